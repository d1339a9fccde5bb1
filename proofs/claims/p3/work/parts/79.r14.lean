/-! the reference's constructor: all bounds hold behind it -/
def wOK (n : Nat) (z : Nat → Int32) : Prop := ∀ i, i < n → (z i).toInt = mWd.getD i 0
theorem wOK_s {n : Nat} {k v : Int32} {z : Nat → Int32} (h : wOK n z) (hk : k.toNatClampNeg = n) (hv : v.toInt = mWd.getD n 0) : wOK (n + 1) (upd z k.toNatClampNeg v) := by
  intro i hi
  rw [hk]
  by_cases e : i = n
  · rw [e, pk_us]; exact hv
  · rw [pk_un e]; exact h i (by omega)
theorem mBf_0 (i : Nat) : (mBf i).1 ≤ 0 ∧ 0 ≤ (mBf i).2 := by
  unfold mBf
  repeat' split
  all_goals decide
theorem mB2_0 (i : Nat) : (mB2 i).1 ≤ 0 ∧ 0 ≤ (mB2 i).2 := by
  unfold mB2
  by_cases h16 : i < 16
  · rw [if_pos h16]; decide
  rw [if_neg h16]
  by_cases h22 : i < 22
  · rw [if_pos h22]; decide
  rw [if_neg h22]
  by_cases h23 : i < 23
  · rw [if_pos h23]; decide
  rw [if_neg h23]
  by_cases h33 : i < 33
  · rw [if_pos h33]; decide
  rw [if_neg h33]
  by_cases h69 : i < 69
  · rw [if_pos h69]; decide
  rw [if_neg h69]
  by_cases h75 : i < 75
  · rw [if_pos h75]; decide
  rw [if_neg h75]
  by_cases h100 : i < 100
  · rw [if_pos h100]; decide
  rw [if_neg h100]
  by_cases h102 : i < 102
  · rw [if_pos h102]; decide
  rw [if_neg h102]
  by_cases h103 : i < 103
  · rw [if_pos h103]; decide
  rw [if_neg h103]
  by_cases h104 : i < 104
  · rw [if_pos h104]; decide
  rw [if_neg h104]
  by_cases h105 : i < 105
  · rw [if_pos h105]; decide
  rw [if_neg h105]
  by_cases h106 : i < 106
  · rw [if_pos h106]; decide
  rw [if_neg h106]
  by_cases h107 : i < 107
  · rw [if_pos h107]; decide
  rw [if_neg h107]
  by_cases h114 : i < 114
  · rw [if_pos h114]; decide
  rw [if_neg h114]
  decide
theorem mBa_0 (s i : Nat) (h : s ≠ 7) : (mBa s i).1 ≤ 0 ∧ 0 ≤ (mBa s i).2 := by
  unfold mBa
  rw [if_neg h]
  repeat' split
  all_goals first | exact mB2_0 _ | decide
theorem mT_0 : mT (fun _ => 0) := fun t _ => Or.inl (show (0 : Int32).toInt = 0 by decide +kernel)
theorem mI_0 {w : Nat → Int32} (hw : wOK 146 w) : mI (upd (upd (upd (fun _ => 0) 14 (-1)) 37 (-1)) 45 (-1)) (va_up (fun _ _ => 0) 7 w) := by
  have e0 : (0 : Int32).toInt = 0 := by decide +kernel
  refine ⟨fun i => ?_, fun s i => ?_, mT_0, mT_0, mT_0⟩
  · by_cases h1 : i = 45
    · subst h1; rw [pk_us]; exact ⟨by decide +kernel, by decide +kernel⟩
    · rw [pk_un h1]
      by_cases h2 : i = 37
      · subst h2; rw [pk_us]; exact ⟨by decide +kernel, by decide +kernel⟩
      · rw [pk_un h2]
        by_cases h3 : i = 14
        · subst h3; rw [pk_us]; exact ⟨by decide +kernel, by decide +kernel⟩
        · rw [pk_un h3, e0]; exact mBf_0 i
  · unfold va_up
    by_cases h : s = 7
    · rw [if_pos h, h]
      by_cases hi : i < 146
      · have e : mBa 7 i = (mWd.getD i 0, mWd.getD i 0) := by
          show (if i < 146 then (mWd.getD i 0, mWd.getD i 0) else kAny) = _
          rw [if_pos hi]
        rw [e, hw i hi]
        exact ⟨Int.le_refl _, Int.le_refl _⟩
      · have e : mBa 7 i = kAny := by
          show (if i < 146 then (mWd.getD i 0, mWd.getD i 0) else kAny) = _
          rw [if_neg hi]
        rw [e]; exact kb_any _
    · rw [if_neg h, e0]; exact mBa_0 s i h
/-- how a site begins -/
def kz (i : Nat) : Int32 := if 16 ≤ i ∧ i < 22 then -1 else if i = 99 then 30 else if i = 100 then 2 else if i = 106 then -1 else 0
theorem kz_i {k : Nat → Int32} (h99 : k 99 = 30) (h100 : k 100 = 2) (h106 : k 106 = -1) (h16 : ∀ q, q < 6 → k (16 + q) = -1) (h0 : ∀ i, XR [(16, 22), (99, 101), (106, 107)] i = false → k i = 0) : kQe kz k := by
  have hX : ∀ i, i < 107 → ¬ (16 ≤ i ∧ i < 22) → ¬ i = 99 → ¬ i = 100 → ¬ i = 106 → XR [(16, 22), (99, 101), (106, 107)] i = false := by decide +kernel
  intro i hi
  unfold kz
  by_cases c1 : 16 ≤ i ∧ i < 22
  · rw [if_pos c1]
    have w := h16 (i - 16) (by omega)
    rw [show 16 + (i - 16) = i by omega] at w
    exact w
  · rw [if_neg c1]
    by_cases c2 : i = 99
    · rw [if_pos c2, c2]; exact h99
    · rw [if_neg c2]
      by_cases c3 : i = 100
      · rw [if_pos c3, c3]; exact h100
      · rw [if_neg c3]
        by_cases c4 : i = 106
        · rw [if_pos c4, c4]; exact h106
        · rw [if_neg c4]; exact h0 i (hX i hi c1 c2 c3 c4)
theorem kK_z : kK kz := by
  have h : ∀ i, i < 107 → (kBd i).1 ≤ (kz i).toInt ∧ (kz i).toInt ≤ (kBd i).2 := by decide +kernel
  have h2 : ∀ b, b < 6 → (kz (16 + b)).toInt < (kz 102).toInt := by decide +kernel
  exact ⟨h, h2, by decide +kernel⟩
theorem kc_30 : kb 30 30 30 := ⟨by decide +kernel, by decide +kernel⟩
set_option maxHeartbeats 4000000 in
set_option maxRecDepth 100000 in
theorem c_init_t2 (l : Launch) {D : va_G} {K : Nat → ClassId} {o : Nat} {p : Program} {e : Env} {s : State} {m : MethodId} {below : List Frame} {meth : Method} {c : Code} {A : Nat → Prop} (hx : p.tables.exec = Jvm.exec) (hb : c.code = cX12_init) (hr : meth.sig.returnType = none) (hml : c.maxLocals = 2) (hown : s.vm.findClass RX12 = some m.cls) (hg : ∀ w ∈ kG, w.before ([.ref o] : List Value).toArray s = true) (hlocks : meth.locks = false) (hK : va_K D vwCl (tysK K) s) (hA : ∀ q, s.heap.size ≤ q → A q) (r : Nat → Nat) (F : Nat → Int32) (B : Nat → Nat → Int32) (G : Nat → Int64) (H : Heap) (locs : List Loc) (ls : Array Slot) (hI : mI F B) (z13 : F 13 = 0) (z6 : F 6 = 0) (z14 : F 14 = -1) (z37 : F 37 = -1) (z0 : F 0 = 0) (z33 : F 33 = 0) (z11 : B 11 = fun _ => 0) (z4 : B 4 = fun _ => 0) (z2 : B 2 = fun _ => 0) (z1 : B 1 = fun _ => 0) (hP : va_P D vwCl (mW K o r F B G) H) (hD : va_D A (mW K o r F B G)) (hS : va_S A s.heap H locs) (hl : lv_has ls 2 [(0, .ref o)]) : W p l e (rmD 2 21 21251) s m ([.ref o] : List Value).toArray below meth c H locs 21 21251 (kQv D (tysK K) (fun (u : (Nat → Nat) × mS) => mI u.2.1 u.2.2.1 ∧ u.2.1 13 = 0 ∧ u.2.1 6 = 0 ∧ u.2.2.1 11 = (fun _ => 0) ∧ u.2.2.1 4 0 = 0 ∧ u.2.2.1 4 1 = 0 ∧ u.2.1 14 = -1 ∧ u.2.1 37 = -1 ∧ u.2.1 0 = 0 ∧ u.2.1 33 = 0 ∧ u.2.2.1 1 = (fun _ => 0) ∧ kQe kz (u.2.2.1 2)) (fun u => mW K o u.1 u.2.1 u.2.2.1 u.2.2.2) A below ([.ref o] : List Value).toArray s 21 21251) (F0 m 1083 ls []) := by
  have hE : mE (XR [(16, 22), (99, 101), (106, 107)]) F B F B := mE_rf
  have hZ : mZ [] [2] F B F B := mZ_rf
  refine lv_aload_n hx hb dX12_init_1083 rfl (lv_at hl 0 rfl) ?_
  refine va_get (D := D) (ci := 12) (v := .ref (r 2)) (C := RX12) (T := TX12) (N := 48) hx hb hg inC12 hown hK hP 0 rfl rfl 2 (by decide) (hg _ wt5_162) (fun _ h9 => h9) rfl dX12_init_1084 ?_
  refine lv_bipush (v := 99) hx hb dX12_init_1087 (by decide) ?_
  refine lv_bipush (v := 30) hx hb dX12_init_1089 (by decide) ?_
  refine va_iast hx hb hK hP hD hS 2 0 rfl rfl (kb_in kc_99 (by decide) (by decide)) dX12_init_1091 (fun H locs hP hD hS => ?_)
  rw [cl_99] at hP hD
  have hP : va_P D vwCl (mW K o r F (va_up B 2 (upd (B 2) 99 30)) G) H := hP
  have hD : va_D A (mW K o r F (va_up B 2 (upd (B 2) 99 30)) G) := hD
  refine k_gen (P := fun z => va_P D vwCl (mW K o r F z G) H ∧ va_D A (mW K o r F z G) ∧ (mI F z) ∧ (mE (XR [(16, 22), (99, 101), (106, 107)]) F B F z) ∧ (mZ [] [2] F B F z)) (va_up B 2 (upd (B 2) 99 30)) ⟨hP, hD, (mI_2 hI (aI_st hI.2.1 2 99 kc_30 (by decide) (by decide)) (by decide)), (mE_2 hE (by decide)), (mZ_a hZ rfl)⟩ (fun a_1 ea_1 hq => ?_)
  obtain ⟨hP, hD, hI, hE, hZ⟩ := hq
  refine lv_aload_n hx hb dX12_init_1092 rfl (lv_at hl 0 rfl) ?_
  refine va_get (D := D) (ci := 12) (v := .ref (r 2)) (C := RX12) (T := TX12) (N := 48) hx hb hg inC12 hown hK hP 0 rfl rfl 2 (by decide) (hg _ wt5_162) (fun _ h9 => h9) rfl dX12_init_1093 ?_
  refine lv_bipush (v := 100) hx hb dX12_init_1096 (by decide) ?_
  refine lv_iconst (v := 2) hx hb dX12_init_1098 (by decide) ?_
  refine va_iast hx hb hK hP hD hS 2 0 rfl rfl (kb_in kc_100 (by decide) (by decide)) dX12_init_1099 (fun H locs hP hD hS => ?_)
  rw [cl_100] at hP hD
  have hP : va_P D vwCl (mW K o r F (va_up a_1 2 (upd (a_1 2) 100 2)) G) H := hP
  have hD : va_D A (mW K o r F (va_up a_1 2 (upd (a_1 2) 100 2)) G) := hD
  refine k_gen (P := fun z => va_P D vwCl (mW K o r F z G) H ∧ va_D A (mW K o r F z G) ∧ (mI F z) ∧ (mE (XR [(16, 22), (99, 101), (106, 107)]) F B F z) ∧ (mZ [] [2] F B F z)) (va_up a_1 2 (upd (a_1 2) 100 2)) ⟨hP, hD, (mI_2 hI (aI_st hI.2.1 2 100 kc_2 (by decide) (by decide)) (by decide)), (mE_2 hE (by decide)), (mZ_a hZ rfl)⟩ (fun a_2 ea_2 hq => ?_)
  obtain ⟨hP, hD, hI, hE, hZ⟩ := hq
  refine lv_aload_n hx hb dX12_init_1100 rfl (lv_at hl 0 rfl) ?_
  refine va_get (D := D) (ci := 12) (v := .ref (r 2)) (C := RX12) (T := TX12) (N := 48) hx hb hg inC12 hown hK hP 0 rfl rfl 2 (by decide) (hg _ wt5_162) (fun _ h9 => h9) rfl dX12_init_1101 ?_
  refine lv_bipush (v := 106) hx hb dX12_init_1104 (by decide) ?_
  refine lv_iconst (v := (-1)) hx hb dX12_init_1106 (by decide) ?_
  refine va_iast hx hb hK hP hD hS 2 0 rfl rfl (kb_in kc_106 (by decide) (by decide)) dX12_init_1107 (fun H locs hP hD hS => ?_)
  rw [cl_106] at hP hD
  have hP : va_P D vwCl (mW K o r F (va_up a_2 2 (upd (a_2 2) 106 (-1))) G) H := hP
  have hD : va_D A (mW K o r F (va_up a_2 2 (upd (a_2 2) 106 (-1))) G) := hD
  refine k_gen (P := fun z => va_P D vwCl (mW K o r F z G) H ∧ va_D A (mW K o r F z G) ∧ (mI F z) ∧ (mE (XR [(16, 22), (99, 101), (106, 107)]) F B F z) ∧ (mZ [] [2] F B F z)) (va_up a_2 2 (upd (a_2 2) 106 (-1))) ⟨hP, hD, (mI_2 hI (aI_st hI.2.1 2 106 kc_m1 (by decide) (by decide)) (by decide)), (mE_2 hE (by decide)), (mZ_a hZ rfl)⟩ (fun a_3 ea_3 hq => ?_)
  obtain ⟨hP, hD, hI, hE, hZ⟩ := hq
  refine lv_iconst (v := 0) hx hb dX12_init_1108 (by decide) ?_
  refine lv_istore_n (lv' := [(1, .int 0), (0, .ref o)]) hx hb dX12_init_1109 rfl hl (by decide) rfl (fun ls hl => ?_)
  have lp6 : ∀ (n7 : Nat) (j : Nat) (B5 : Nat → Nat → Int32) (H : Heap) (locs : List Loc) (ls : Array Slot) (y4 : Int32), ((6 : Int) < (j : Int) + (n7 : Int)) → (mI F B5) → (mE (XR [(16, 22), (99, 101), (106, 107)]) F B F B5) → (mZ [] [2] F B F B5) → (kb 0 y4 6) → (∀ q, q < j → B5 2 (16 + q) = -1) → (y4.toInt = (j : Int)) → (B5 2 99 = 30) → (B5 2 100 = 2) → (B5 2 106 = -1) → (j ≤ 6) → va_P D vwCl (mW K o r F B5 G) H → va_D A (mW K o r F B5 G) → va_S A s.heap H locs → lv_has ls 2 [(1, .int y4), (0, .ref o)] → W p l e (rmD 2 21 21251) s m ([.ref o] : List Value).toArray below meth c H locs 21 21251 (kQv D (tysK K) (fun (u : (Nat → Nat) × mS) => mI u.2.1 u.2.2.1 ∧ u.2.1 13 = 0 ∧ u.2.1 6 = 0 ∧ u.2.2.1 11 = (fun _ => 0) ∧ u.2.2.1 4 0 = 0 ∧ u.2.2.1 4 1 = 0 ∧ u.2.1 14 = -1 ∧ u.2.1 37 = -1 ∧ u.2.1 0 = 0 ∧ u.2.1 33 = 0 ∧ u.2.2.1 1 = (fun _ => 0) ∧ kQe kz (u.2.2.1 2)) (fun u => mW K o u.1 u.2.1 u.2.2.1 u.2.2.2) A below ([.ref o] : List Value).toArray s 21 21251) (F0 m 1110 ls []) := by
    intro n7
    induction n7 with
    | zero =>
      intro j B5  H locs ls y4 hmlp6 hI hE hZ b8 hvlp6_0 hvlp6_1 hvlp6_2 hvlp6_3 hvlp6_4 hvlp6_5 hP hD hS hl
      exact (by have w1 := hmlp6; have w2 := hvlp6_5; omega : False).elim
    | succ n7 ihlp6 =>
      intro j B5  H locs ls y4 hmlp6 hI hE hZ b8 hvlp6_0 hvlp6_1 hvlp6_2 hvlp6_3 hvlp6_4 hvlp6_5 hP hD hS hl
      refine lv_iload_n hx hb dX12_init_1110 rfl (lv_at hl 0 rfl) ?_
      refine lv_bipush (v := 6) hx hb dX12_init_1111 (by decide) ?_
      refine lv_icmp_ge (tgt := 1132) hx hb dX12_init_1113 (by decide) (fun c9 => ?_) (fun c9 => ?_)
      · have h10 := (kc_le c9)
        have b11 : kb 6 y4 6 := kr_le2 h10 kc_6 b8
        exact kV_ret hx hb hr hlocks hK hS dX12_init_1132 (r, F, B5, G) hP hD ⟨hI, (hE.1 13 rfl).trans z13, (hE.1 6 rfl).trans z6, hE.2.1.trans z11, (congrFun (hE.2.2.2.2.trans z4) 0), (congrFun (hE.2.2.2.2.trans z4) 1), (hE.1 14 rfl).trans z14, (hE.1 37 rfl).trans z37, (hZ.1 0 rfl).trans z0, (hZ.1 33 rfl).trans z33, (hZ.2 1 rfl).trans z1, (kz_i hvlp6_2 hvlp6_3 hvlp6_4 (fun q hq => hvlp6_0 q (Nat.lt_of_lt_of_le hq (by have w1 := hvlp6_1; have w2 := (b11).1; omega))) (fun i hi => (hE.2.2.1 i hi).trans (congrFun z2 i)))⟩
      · have h12 := (kc_nle c9)
        have b13 : kb 0 y4 5 := kr_lt1 h12 b8 kc_6 (by decide)
        refine lv_aload_n hx hb dX12_init_1116 rfl (lv_at hl 1 rfl) ?_
        refine va_get (D := D) (ci := 12) (v := .ref (r 2)) (C := RX12) (T := TX12) (N := 48) hx hb hg inC12 hown hK hP 0 rfl rfl 2 (by decide) (hg _ wt5_162) (fun _ h9 => h9) rfl dX12_init_1117 ?_
        refine lv_bipush (v := 16) hx hb dX12_init_1120 (by decide) ?_
        refine lv_iload_n hx hb dX12_init_1122 rfl (lv_at hl 0 rfl) ?_
        refine lv_iadd hx hb dX12_init_1123 ?_
        refine lv_topi (fun t14 et14 => ?_)
        have b15 : kb 16 t14 21 := kb_eq et14 (kb_add kc_16 b13 (by decide) (by decide))
        have qt14 : t14.toInt = 16 + y4.toInt := by rw [et14]; exact kt_cadd kc_16 b13 (by decide) (by decide)
        refine lv_iconst (v := (-1)) hx hb dX12_init_1124 (by decide) ?_
        refine va_iast hx hb hK hP hD hS 2 0 rfl rfl (kb_in b15 (by decide) (by decide)) dX12_init_1125 (fun H locs hP hD hS => ?_)
        have hP : va_P D vwCl (mW K o r F (va_up B5 2 (upd (B5 2) t14.toNatClampNeg (-1))) G) H := hP
        have hD : va_D A (mW K o r F (va_up B5 2 (upd (B5 2) t14.toNatClampNeg (-1))) G) := hD
        refine k_gen (P := fun z => va_P D vwCl (mW K o r F z G) H ∧ va_D A (mW K o r F z G) ∧ (mI F z) ∧ (mE (XR [(16, 22), (99, 101), (106, 107)]) F B F z) ∧ (mZ [] [2] F B F z)) (va_up B5 2 (upd (B5 2) t14.toNatClampNeg (-1))) ⟨hP, hD, (mI_2 hI (aI_sx hI.2.1 2 16 6 b15 (by decide) (by decide) kc_m1 (by decide +kernel)) (kb_clt b15 (by decide) (by decide))), (mE_2 hE (bX_at 16 6 b15 (by decide) (by decide) (by decide))), (mZ_a hZ rfl)⟩ (fun a_16 ea_16 hq => ?_)
        obtain ⟨hP, hD, hI, hE, hZ⟩ := hq
        obtain ⟨t17, et17⟩ : ∃ z : Int32, z = y4 + Int32.ofInt 1 := ⟨_, rfl⟩
        have qt17 : t17.toInt = y4.toInt + 1 := by rw [et17]; exact km_inc b13 (by decide) (by decide)
        have b18 : kb 1 t17 6 := kb_inc (k := 1) qt17 b13
        refine lv_iinc (v := t17) (lv' := [(1, .int t17), (0, .ref o)]) hx hb dX12_init_1126 hl (k := 0) rfl et17.symm (by decide) rfl (fun ls hl => ?_)
        refine lv_goto (tgt := 1110) hx hb dX12_init_1129 (by decide) ?_
        exact ihlp6 (j + 1) a_16 _ _ _ t17 (by omega) hI hE hZ (kb_w b18 (by decide) (by decide)) ((fun q hq => by have hix : t14.toNatClampNeg = 16 + j := (by have w1 := qt14; have w2 := hvlp6_1; unfold Int32.toNatClampNeg; omega); rw [← ea_16]; show upd (B5 2) t14.toNatClampNeg _ (16 + q) = _; rw [hix]; by_cases c : q = j; (rw [c, pk_us]); (rw [pk_un (by omega)]; exact hvlp6_0 q (by omega)))) (by have w1 := hvlp6_1; omega) ((by rw [← ea_16]; show upd (B5 2) t14.toNatClampNeg _ 99 = _; rw [pk_un (by have w1 := qt14; have w2 := hvlp6_1; have w3 := (b13).2; unfold Int32.toNatClampNeg; omega)]; exact hvlp6_2)) ((by rw [← ea_16]; show upd (B5 2) t14.toNatClampNeg _ 100 = _; rw [pk_un (by have w1 := qt14; have w2 := hvlp6_1; have w3 := (b13).2; unfold Int32.toNatClampNeg; omega)]; exact hvlp6_3)) ((by rw [← ea_16]; show upd (B5 2) t14.toNatClampNeg _ 106 = _; rw [pk_un (by have w1 := qt14; have w2 := hvlp6_1; have w3 := (b13).2; unfold Int32.toNatClampNeg; omega)]; exact hvlp6_4)) (by have w1 := hvlp6_1; have w2 := (b13).2; omega) hP hD hS (lv_sub hl [0, 1] rfl)
  exact lp6 (7) 0 a_3 _ _ _ 0 (by omega) hI hE hZ (kb_w kc_0 (by decide) (by decide)) (fun q hq => absurd hq (Nat.not_lt_zero q)) (by decide +kernel) (((show a_3 2 99 = a_2 2 99 from by rw [← ea_3]; rfl).trans ((show a_2 2 99 = a_1 2 99 from by rw [← ea_2]; rfl).trans (show a_1 2 99 = 30 from by rw [← ea_1]; exact (pk_us (f := B 2) (k := 99) (x := 30)))))) (((show a_3 2 100 = a_2 2 100 from by rw [← ea_3]; rfl).trans (show a_2 2 100 = 2 from by rw [← ea_2]; exact (pk_us (f := a_1 2) (k := 100) (x := 2))))) ((show a_3 2 106 = (-1) from by rw [← ea_3]; exact (pk_us (f := a_2 2) (k := 106) (x := (-1))))) (Nat.zero_le _) hP hD hS (lv_sub hl [0, 1] rfl)
set_option maxHeartbeats 4000000 in
set_option maxRecDepth 100000 in
theorem c_iw1 {D : va_G} {K : Nat → ClassId} {p : Program} {e : Env} {s : State} {m : MethodId} {below : List Frame} {meth : Method} {c : Code} {A : Nat → Prop} (l : Launch) (hx : p.tables.exec = Jvm.exec) (hb : c.code = cX12_init) (hK : va_K D vwCl (tysK K) s) {x0 x1 x2 x3 x4 x5 : Nat × va_E} {q o : Nat} {rm : Room} {args : Array Value} {cc ss : Nat} {Q : State → Prop} {ls : Array Slot} {w : Nat → Int32} {H : Heap} {locs : List Loc} (hP : va_P D vwCl [x0, x1, x2, x3, x4, x5, (q, .inl (K 1, 146, .inl w))] H) (hD : va_D A [x0, x1, x2, x3, x4, x5, (q, .inl (K 1, 146, .inl w))]) (hS : va_S A s.heap H locs) (hW : wOK 0 w) (kk : ∀ (w : Nat → Int32) (H : Heap) (locs : List Loc), va_P D vwCl [x0, x1, x2, x3, x4, x5, (q, .inl (K 1, 146, .inl w))] H → va_D A [x0, x1, x2, x3, x4, x5, (q, .inl (K 1, 146, .inl w))] → va_S A s.heap H locs → wOK 37 w → W p l e rm s m args below meth c H locs cc ss Q (F0 m 267 ls [.ref q, .ref o])) : W p l e rm s m args below meth c H locs cc ss Q (F0 m 51 ls [.ref q, .ref o]) := by
  refine lv_dup hx hb dX12_init_51 rfl ?_
  refine lv_iconst (v := 0) hx hb dX12_init_52 (by decide) ?_
  refine lv_bipush (v := 119) hx hb dX12_init_53 (by decide) ?_
  refine va_bast hx hb hK hP hD hS 6 1 rfl rfl (k_in (by decide +kernel)) dX12_init_55 (fun H locs hP hD hS => ?_)
  refine k_con (P := fun (z : Nat → Int32) => va_P D vwCl [x0, x1, x2, x3, x4, x5, (q, .inl (K 1, 146, .inl z))] H ∧ va_D A [x0, x1, x2, x3, x4, x5, (q, .inl (K 1, 146, .inl z))] ∧ wOK 1 z) (upd w (0 : Int32).toNatClampNeg (vp_nar .byte 119)) ⟨hP, hD, wOK_s hW (by decide +kernel) (by decide +kernel)⟩ (fun w0 hPD => ?_)
  have hP := hPD.1
  have hD := hPD.2.1
  have hW := hPD.2.2
  refine lv_dup hx hb dX12_init_56 rfl ?_
  refine lv_iconst (v := 1) hx hb dX12_init_57 (by decide) ?_
  refine lv_bipush (v := 111) hx hb dX12_init_58 (by decide) ?_
  refine va_bast hx hb hK hP hD hS 6 1 rfl rfl (k_in (by decide +kernel)) dX12_init_60 (fun H locs hP hD hS => ?_)
  refine k_con (P := fun (z : Nat → Int32) => va_P D vwCl [x0, x1, x2, x3, x4, x5, (q, .inl (K 1, 146, .inl z))] H ∧ va_D A [x0, x1, x2, x3, x4, x5, (q, .inl (K 1, 146, .inl z))] ∧ wOK 2 z) (upd w0 (1 : Int32).toNatClampNeg (vp_nar .byte 111)) ⟨hP, hD, wOK_s hW (by decide +kernel) (by decide +kernel)⟩ (fun w1 hPD => ?_)
  have hP := hPD.1
  have hD := hPD.2.1
  have hW := hPD.2.2
  refine lv_dup hx hb dX12_init_61 rfl ?_
  refine lv_iconst (v := 2) hx hb dX12_init_62 (by decide) ?_
  refine lv_bipush (v := 114) hx hb dX12_init_63 (by decide) ?_
  refine va_bast hx hb hK hP hD hS 6 1 rfl rfl (k_in (by decide +kernel)) dX12_init_65 (fun H locs hP hD hS => ?_)
  refine k_con (P := fun (z : Nat → Int32) => va_P D vwCl [x0, x1, x2, x3, x4, x5, (q, .inl (K 1, 146, .inl z))] H ∧ va_D A [x0, x1, x2, x3, x4, x5, (q, .inl (K 1, 146, .inl z))] ∧ wOK 3 z) (upd w1 (2 : Int32).toNatClampNeg (vp_nar .byte 114)) ⟨hP, hD, wOK_s hW (by decide +kernel) (by decide +kernel)⟩ (fun w2 hPD => ?_)
  have hP := hPD.1
  have hD := hPD.2.1
  have hW := hPD.2.2
  refine lv_dup hx hb dX12_init_66 rfl ?_
  refine lv_iconst (v := 3) hx hb dX12_init_67 (by decide) ?_
  refine lv_bipush (v := 107) hx hb dX12_init_68 (by decide) ?_
  refine va_bast hx hb hK hP hD hS 6 1 rfl rfl (k_in (by decide +kernel)) dX12_init_70 (fun H locs hP hD hS => ?_)
  refine k_con (P := fun (z : Nat → Int32) => va_P D vwCl [x0, x1, x2, x3, x4, x5, (q, .inl (K 1, 146, .inl z))] H ∧ va_D A [x0, x1, x2, x3, x4, x5, (q, .inl (K 1, 146, .inl z))] ∧ wOK 4 z) (upd w2 (3 : Int32).toNatClampNeg (vp_nar .byte 107)) ⟨hP, hD, wOK_s hW (by decide +kernel) (by decide +kernel)⟩ (fun w3 hPD => ?_)
  have hP := hPD.1
  have hD := hPD.2.1
  have hW := hPD.2.2
  refine lv_dup hx hb dX12_init_71 rfl ?_
  refine lv_iconst (v := 4) hx hb dX12_init_72 (by decide) ?_
  refine lv_bipush (v := 115) hx hb dX12_init_73 (by decide) ?_
  refine va_bast hx hb hK hP hD hS 6 1 rfl rfl (k_in (by decide +kernel)) dX12_init_75 (fun H locs hP hD hS => ?_)
  refine k_con (P := fun (z : Nat → Int32) => va_P D vwCl [x0, x1, x2, x3, x4, x5, (q, .inl (K 1, 146, .inl z))] H ∧ va_D A [x0, x1, x2, x3, x4, x5, (q, .inl (K 1, 146, .inl z))] ∧ wOK 5 z) (upd w3 (4 : Int32).toNatClampNeg (vp_nar .byte 115)) ⟨hP, hD, wOK_s hW (by decide +kernel) (by decide +kernel)⟩ (fun w4 hPD => ?_)
  have hP := hPD.1
  have hD := hPD.2.1
  have hW := hPD.2.2
  refine lv_dup hx hb dX12_init_76 rfl ?_
  refine lv_iconst (v := 5) hx hb dX12_init_77 (by decide) ?_
  refine lv_bipush (v := 32) hx hb dX12_init_78 (by decide) ?_
  refine va_bast hx hb hK hP hD hS 6 1 rfl rfl (k_in (by decide +kernel)) dX12_init_80 (fun H locs hP hD hS => ?_)
  refine k_con (P := fun (z : Nat → Int32) => va_P D vwCl [x0, x1, x2, x3, x4, x5, (q, .inl (K 1, 146, .inl z))] H ∧ va_D A [x0, x1, x2, x3, x4, x5, (q, .inl (K 1, 146, .inl z))] ∧ wOK 6 z) (upd w4 (5 : Int32).toNatClampNeg (vp_nar .byte 32)) ⟨hP, hD, wOK_s hW (by decide +kernel) (by decide +kernel)⟩ (fun w5 hPD => ?_)
  have hP := hPD.1
  have hD := hPD.2.1
  have hW := hPD.2.2
  refine lv_dup hx hb dX12_init_81 rfl ?_
  refine lv_bipush (v := 6) hx hb dX12_init_82 (by decide) ?_
  refine lv_bipush (v := 116) hx hb dX12_init_84 (by decide) ?_
  refine va_bast hx hb hK hP hD hS 6 1 rfl rfl (k_in (by decide +kernel)) dX12_init_86 (fun H locs hP hD hS => ?_)
  refine k_con (P := fun (z : Nat → Int32) => va_P D vwCl [x0, x1, x2, x3, x4, x5, (q, .inl (K 1, 146, .inl z))] H ∧ va_D A [x0, x1, x2, x3, x4, x5, (q, .inl (K 1, 146, .inl z))] ∧ wOK 7 z) (upd w5 (6 : Int32).toNatClampNeg (vp_nar .byte 116)) ⟨hP, hD, wOK_s hW (by decide +kernel) (by decide +kernel)⟩ (fun w6 hPD => ?_)
  have hP := hPD.1
  have hD := hPD.2.1
  have hW := hPD.2.2
  refine lv_dup hx hb dX12_init_87 rfl ?_
  refine lv_bipush (v := 7) hx hb dX12_init_88 (by decide) ?_
  refine lv_bipush (v := 105) hx hb dX12_init_90 (by decide) ?_
  refine va_bast hx hb hK hP hD hS 6 1 rfl rfl (k_in (by decide +kernel)) dX12_init_92 (fun H locs hP hD hS => ?_)
  refine k_con (P := fun (z : Nat → Int32) => va_P D vwCl [x0, x1, x2, x3, x4, x5, (q, .inl (K 1, 146, .inl z))] H ∧ va_D A [x0, x1, x2, x3, x4, x5, (q, .inl (K 1, 146, .inl z))] ∧ wOK 8 z) (upd w6 (7 : Int32).toNatClampNeg (vp_nar .byte 105)) ⟨hP, hD, wOK_s hW (by decide +kernel) (by decide +kernel)⟩ (fun w7 hPD => ?_)
  have hP := hPD.1
  have hD := hPD.2.1
  have hW := hPD.2.2
  refine lv_dup hx hb dX12_init_93 rfl ?_
  refine lv_bipush (v := 8) hx hb dX12_init_94 (by decide) ?_
  refine lv_bipush (v := 114) hx hb dX12_init_96 (by decide) ?_
  refine va_bast hx hb hK hP hD hS 6 1 rfl rfl (k_in (by decide +kernel)) dX12_init_98 (fun H locs hP hD hS => ?_)
  refine k_con (P := fun (z : Nat → Int32) => va_P D vwCl [x0, x1, x2, x3, x4, x5, (q, .inl (K 1, 146, .inl z))] H ∧ va_D A [x0, x1, x2, x3, x4, x5, (q, .inl (K 1, 146, .inl z))] ∧ wOK 9 z) (upd w7 (8 : Int32).toNatClampNeg (vp_nar .byte 114)) ⟨hP, hD, wOK_s hW (by decide +kernel) (by decide +kernel)⟩ (fun w8 hPD => ?_)
  have hP := hPD.1
  have hD := hPD.2.1
  have hW := hPD.2.2
  refine lv_dup hx hb dX12_init_99 rfl ?_
  refine lv_bipush (v := 9) hx hb dX12_init_100 (by decide) ?_
  refine lv_bipush (v := 101) hx hb dX12_init_102 (by decide) ?_
  refine va_bast hx hb hK hP hD hS 6 1 rfl rfl (k_in (by decide +kernel)) dX12_init_104 (fun H locs hP hD hS => ?_)
  refine k_con (P := fun (z : Nat → Int32) => va_P D vwCl [x0, x1, x2, x3, x4, x5, (q, .inl (K 1, 146, .inl z))] H ∧ va_D A [x0, x1, x2, x3, x4, x5, (q, .inl (K 1, 146, .inl z))] ∧ wOK 10 z) (upd w8 (9 : Int32).toNatClampNeg (vp_nar .byte 101)) ⟨hP, hD, wOK_s hW (by decide +kernel) (by decide +kernel)⟩ (fun w9 hPD => ?_)
  have hP := hPD.1
  have hD := hPD.2.1
  have hW := hPD.2.2
  refine lv_dup hx hb dX12_init_105 rfl ?_
  refine lv_bipush (v := 10) hx hb dX12_init_106 (by decide) ?_
  refine lv_bipush (v := 115) hx hb dX12_init_108 (by decide) ?_
  refine va_bast hx hb hK hP hD hS 6 1 rfl rfl (k_in (by decide +kernel)) dX12_init_110 (fun H locs hP hD hS => ?_)
  refine k_con (P := fun (z : Nat → Int32) => va_P D vwCl [x0, x1, x2, x3, x4, x5, (q, .inl (K 1, 146, .inl z))] H ∧ va_D A [x0, x1, x2, x3, x4, x5, (q, .inl (K 1, 146, .inl z))] ∧ wOK 11 z) (upd w9 (10 : Int32).toNatClampNeg (vp_nar .byte 115)) ⟨hP, hD, wOK_s hW (by decide +kernel) (by decide +kernel)⟩ (fun w10 hPD => ?_)
  have hP := hPD.1
  have hD := hPD.2.1
  have hW := hPD.2.2
  refine lv_dup hx hb dX12_init_111 rfl ?_
  refine lv_bipush (v := 11) hx hb dX12_init_112 (by decide) ?_
  refine lv_bipush (v := 32) hx hb dX12_init_114 (by decide) ?_
  refine va_bast hx hb hK hP hD hS 6 1 rfl rfl (k_in (by decide +kernel)) dX12_init_116 (fun H locs hP hD hS => ?_)
  refine k_con (P := fun (z : Nat → Int32) => va_P D vwCl [x0, x1, x2, x3, x4, x5, (q, .inl (K 1, 146, .inl z))] H ∧ va_D A [x0, x1, x2, x3, x4, x5, (q, .inl (K 1, 146, .inl z))] ∧ wOK 12 z) (upd w10 (11 : Int32).toNatClampNeg (vp_nar .byte 32)) ⟨hP, hD, wOK_s hW (by decide +kernel) (by decide +kernel)⟩ (fun w11 hPD => ?_)
  have hP := hPD.1
  have hD := hPD.2.1
  have hW := hPD.2.2
  refine lv_dup hx hb dX12_init_117 rfl ?_
  refine lv_bipush (v := 12) hx hb dX12_init_118 (by decide) ?_
  refine lv_bipush (v := 115) hx hb dX12_init_120 (by decide) ?_
  refine va_bast hx hb hK hP hD hS 6 1 rfl rfl (k_in (by decide +kernel)) dX12_init_122 (fun H locs hP hD hS => ?_)
  refine k_con (P := fun (z : Nat → Int32) => va_P D vwCl [x0, x1, x2, x3, x4, x5, (q, .inl (K 1, 146, .inl z))] H ∧ va_D A [x0, x1, x2, x3, x4, x5, (q, .inl (K 1, 146, .inl z))] ∧ wOK 13 z) (upd w11 (12 : Int32).toNatClampNeg (vp_nar .byte 115)) ⟨hP, hD, wOK_s hW (by decide +kernel) (by decide +kernel)⟩ (fun w12 hPD => ?_)
  have hP := hPD.1
  have hD := hPD.2.1
  have hW := hPD.2.2
  refine lv_dup hx hb dX12_init_123 rfl ?_
  refine lv_bipush (v := 13) hx hb dX12_init_124 (by decide) ?_
  refine lv_bipush (v := 104) hx hb dX12_init_126 (by decide) ?_
  refine va_bast hx hb hK hP hD hS 6 1 rfl rfl (k_in (by decide +kernel)) dX12_init_128 (fun H locs hP hD hS => ?_)
  refine k_con (P := fun (z : Nat → Int32) => va_P D vwCl [x0, x1, x2, x3, x4, x5, (q, .inl (K 1, 146, .inl z))] H ∧ va_D A [x0, x1, x2, x3, x4, x5, (q, .inl (K 1, 146, .inl z))] ∧ wOK 14 z) (upd w12 (13 : Int32).toNatClampNeg (vp_nar .byte 104)) ⟨hP, hD, wOK_s hW (by decide +kernel) (by decide +kernel)⟩ (fun w13 hPD => ?_)
  have hP := hPD.1
  have hD := hPD.2.1
  have hW := hPD.2.2
  refine lv_dup hx hb dX12_init_129 rfl ?_
  refine lv_bipush (v := 14) hx hb dX12_init_130 (by decide) ?_
  refine lv_bipush (v := 111) hx hb dX12_init_132 (by decide) ?_
  refine va_bast hx hb hK hP hD hS 6 1 rfl rfl (k_in (by decide +kernel)) dX12_init_134 (fun H locs hP hD hS => ?_)
  refine k_con (P := fun (z : Nat → Int32) => va_P D vwCl [x0, x1, x2, x3, x4, x5, (q, .inl (K 1, 146, .inl z))] H ∧ va_D A [x0, x1, x2, x3, x4, x5, (q, .inl (K 1, 146, .inl z))] ∧ wOK 15 z) (upd w13 (14 : Int32).toNatClampNeg (vp_nar .byte 111)) ⟨hP, hD, wOK_s hW (by decide +kernel) (by decide +kernel)⟩ (fun w14 hPD => ?_)
  have hP := hPD.1
  have hD := hPD.2.1
  have hW := hPD.2.2
  refine lv_dup hx hb dX12_init_135 rfl ?_
  refine lv_bipush (v := 15) hx hb dX12_init_136 (by decide) ?_
  refine lv_bipush (v := 119) hx hb dX12_init_138 (by decide) ?_
  refine va_bast hx hb hK hP hD hS 6 1 rfl rfl (k_in (by decide +kernel)) dX12_init_140 (fun H locs hP hD hS => ?_)
  refine k_con (P := fun (z : Nat → Int32) => va_P D vwCl [x0, x1, x2, x3, x4, x5, (q, .inl (K 1, 146, .inl z))] H ∧ va_D A [x0, x1, x2, x3, x4, x5, (q, .inl (K 1, 146, .inl z))] ∧ wOK 16 z) (upd w14 (15 : Int32).toNatClampNeg (vp_nar .byte 119)) ⟨hP, hD, wOK_s hW (by decide +kernel) (by decide +kernel)⟩ (fun w15 hPD => ?_)
  have hP := hPD.1
  have hD := hPD.2.1
  have hW := hPD.2.2
  refine lv_dup hx hb dX12_init_141 rfl ?_
  refine lv_bipush (v := 16) hx hb dX12_init_142 (by decide) ?_
  refine lv_bipush (v := 115) hx hb dX12_init_144 (by decide) ?_
  refine va_bast hx hb hK hP hD hS 6 1 rfl rfl (k_in (by decide +kernel)) dX12_init_146 (fun H locs hP hD hS => ?_)
  refine k_con (P := fun (z : Nat → Int32) => va_P D vwCl [x0, x1, x2, x3, x4, x5, (q, .inl (K 1, 146, .inl z))] H ∧ va_D A [x0, x1, x2, x3, x4, x5, (q, .inl (K 1, 146, .inl z))] ∧ wOK 17 z) (upd w15 (16 : Int32).toNatClampNeg (vp_nar .byte 115)) ⟨hP, hD, wOK_s hW (by decide +kernel) (by decide +kernel)⟩ (fun w16 hPD => ?_)
  have hP := hPD.1
  have hD := hPD.2.1
  have hW := hPD.2.2
  refine lv_dup hx hb dX12_init_147 rfl ?_
  refine lv_bipush (v := 17) hx hb dX12_init_148 (by decide) ?_
  refine lv_bipush (v := 32) hx hb dX12_init_150 (by decide) ?_
  refine va_bast hx hb hK hP hD hS 6 1 rfl rfl (k_in (by decide +kernel)) dX12_init_152 (fun H locs hP hD hS => ?_)
  refine k_con (P := fun (z : Nat → Int32) => va_P D vwCl [x0, x1, x2, x3, x4, x5, (q, .inl (K 1, 146, .inl z))] H ∧ va_D A [x0, x1, x2, x3, x4, x5, (q, .inl (K 1, 146, .inl z))] ∧ wOK 18 z) (upd w16 (17 : Int32).toNatClampNeg (vp_nar .byte 32)) ⟨hP, hD, wOK_s hW (by decide +kernel) (by decide +kernel)⟩ (fun w17 hPD => ?_)
  have hP := hPD.1
  have hD := hPD.2.1
  have hW := hPD.2.2
  refine lv_dup hx hb dX12_init_153 rfl ?_
  refine lv_bipush (v := 18) hx hb dX12_init_154 (by decide) ?_
  refine lv_bipush (v := 98) hx hb dX12_init_156 (by decide) ?_
  refine va_bast hx hb hK hP hD hS 6 1 rfl rfl (k_in (by decide +kernel)) dX12_init_158 (fun H locs hP hD hS => ?_)
  refine k_con (P := fun (z : Nat → Int32) => va_P D vwCl [x0, x1, x2, x3, x4, x5, (q, .inl (K 1, 146, .inl z))] H ∧ va_D A [x0, x1, x2, x3, x4, x5, (q, .inl (K 1, 146, .inl z))] ∧ wOK 19 z) (upd w17 (18 : Int32).toNatClampNeg (vp_nar .byte 98)) ⟨hP, hD, wOK_s hW (by decide +kernel) (by decide +kernel)⟩ (fun w18 hPD => ?_)
  have hP := hPD.1
  have hD := hPD.2.1
  have hW := hPD.2.2
  refine lv_dup hx hb dX12_init_159 rfl ?_
  refine lv_bipush (v := 19) hx hb dX12_init_160 (by decide) ?_
  refine lv_bipush (v := 97) hx hb dX12_init_162 (by decide) ?_
  refine va_bast hx hb hK hP hD hS 6 1 rfl rfl (k_in (by decide +kernel)) dX12_init_164 (fun H locs hP hD hS => ?_)
  refine k_con (P := fun (z : Nat → Int32) => va_P D vwCl [x0, x1, x2, x3, x4, x5, (q, .inl (K 1, 146, .inl z))] H ∧ va_D A [x0, x1, x2, x3, x4, x5, (q, .inl (K 1, 146, .inl z))] ∧ wOK 20 z) (upd w18 (19 : Int32).toNatClampNeg (vp_nar .byte 97)) ⟨hP, hD, wOK_s hW (by decide +kernel) (by decide +kernel)⟩ (fun w19 hPD => ?_)
  have hP := hPD.1
  have hD := hPD.2.1
  have hW := hPD.2.2
  refine lv_dup hx hb dX12_init_165 rfl ?_
  refine lv_bipush (v := 20) hx hb dX12_init_166 (by decide) ?_
  refine lv_bipush (v := 114) hx hb dX12_init_168 (by decide) ?_
  refine va_bast hx hb hK hP hD hS 6 1 rfl rfl (k_in (by decide +kernel)) dX12_init_170 (fun H locs hP hD hS => ?_)
  refine k_con (P := fun (z : Nat → Int32) => va_P D vwCl [x0, x1, x2, x3, x4, x5, (q, .inl (K 1, 146, .inl z))] H ∧ va_D A [x0, x1, x2, x3, x4, x5, (q, .inl (K 1, 146, .inl z))] ∧ wOK 21 z) (upd w19 (20 : Int32).toNatClampNeg (vp_nar .byte 114)) ⟨hP, hD, wOK_s hW (by decide +kernel) (by decide +kernel)⟩ (fun w20 hPD => ?_)
  have hP := hPD.1
  have hD := hPD.2.1
  have hW := hPD.2.2
  refine lv_dup hx hb dX12_init_171 rfl ?_
  refine lv_bipush (v := 21) hx hb dX12_init_172 (by decide) ?_
  refine lv_bipush (v := 115) hx hb dX12_init_174 (by decide) ?_
  refine va_bast hx hb hK hP hD hS 6 1 rfl rfl (k_in (by decide +kernel)) dX12_init_176 (fun H locs hP hD hS => ?_)
  refine k_con (P := fun (z : Nat → Int32) => va_P D vwCl [x0, x1, x2, x3, x4, x5, (q, .inl (K 1, 146, .inl z))] H ∧ va_D A [x0, x1, x2, x3, x4, x5, (q, .inl (K 1, 146, .inl z))] ∧ wOK 22 z) (upd w20 (21 : Int32).toNatClampNeg (vp_nar .byte 115)) ⟨hP, hD, wOK_s hW (by decide +kernel) (by decide +kernel)⟩ (fun w21 hPD => ?_)
  have hP := hPD.1
  have hD := hPD.2.1
  have hW := hPD.2.2
  refine lv_dup hx hb dX12_init_177 rfl ?_
  refine lv_bipush (v := 22) hx hb dX12_init_178 (by decide) ?_
  refine lv_bipush (v := 32) hx hb dX12_init_180 (by decide) ?_
  refine va_bast hx hb hK hP hD hS 6 1 rfl rfl (k_in (by decide +kernel)) dX12_init_182 (fun H locs hP hD hS => ?_)
  refine k_con (P := fun (z : Nat → Int32) => va_P D vwCl [x0, x1, x2, x3, x4, x5, (q, .inl (K 1, 146, .inl z))] H ∧ va_D A [x0, x1, x2, x3, x4, x5, (q, .inl (K 1, 146, .inl z))] ∧ wOK 23 z) (upd w21 (22 : Int32).toNatClampNeg (vp_nar .byte 32)) ⟨hP, hD, wOK_s hW (by decide +kernel) (by decide +kernel)⟩ (fun w22 hPD => ?_)
  have hP := hPD.1
  have hD := hPD.2.1
  have hW := hPD.2.2
  refine lv_dup hx hb dX12_init_183 rfl ?_
  refine lv_bipush (v := 23) hx hb dX12_init_184 (by decide) ?_
  refine lv_bipush (v := 105) hx hb dX12_init_186 (by decide) ?_
  refine va_bast hx hb hK hP hD hS 6 1 rfl rfl (k_in (by decide +kernel)) dX12_init_188 (fun H locs hP hD hS => ?_)
  refine k_con (P := fun (z : Nat → Int32) => va_P D vwCl [x0, x1, x2, x3, x4, x5, (q, .inl (K 1, 146, .inl z))] H ∧ va_D A [x0, x1, x2, x3, x4, x5, (q, .inl (K 1, 146, .inl z))] ∧ wOK 24 z) (upd w22 (23 : Int32).toNatClampNeg (vp_nar .byte 105)) ⟨hP, hD, wOK_s hW (by decide +kernel) (by decide +kernel)⟩ (fun w23 hPD => ?_)
  have hP := hPD.1
  have hD := hPD.2.1
  have hW := hPD.2.2
  refine lv_dup hx hb dX12_init_189 rfl ?_
  refine lv_bipush (v := 24) hx hb dX12_init_190 (by decide) ?_
  refine lv_bipush (v := 102) hx hb dX12_init_192 (by decide) ?_
  refine va_bast hx hb hK hP hD hS 6 1 rfl rfl (k_in (by decide +kernel)) dX12_init_194 (fun H locs hP hD hS => ?_)
  refine k_con (P := fun (z : Nat → Int32) => va_P D vwCl [x0, x1, x2, x3, x4, x5, (q, .inl (K 1, 146, .inl z))] H ∧ va_D A [x0, x1, x2, x3, x4, x5, (q, .inl (K 1, 146, .inl z))] ∧ wOK 25 z) (upd w23 (24 : Int32).toNatClampNeg (vp_nar .byte 102)) ⟨hP, hD, wOK_s hW (by decide +kernel) (by decide +kernel)⟩ (fun w24 hPD => ?_)
  have hP := hPD.1
  have hD := hPD.2.1
  have hW := hPD.2.2
  refine lv_dup hx hb dX12_init_195 rfl ?_
  refine lv_bipush (v := 25) hx hb dX12_init_196 (by decide) ?_
  refine lv_bipush (v := 32) hx hb dX12_init_198 (by decide) ?_
  refine va_bast hx hb hK hP hD hS 6 1 rfl rfl (k_in (by decide +kernel)) dX12_init_200 (fun H locs hP hD hS => ?_)
  refine k_con (P := fun (z : Nat → Int32) => va_P D vwCl [x0, x1, x2, x3, x4, x5, (q, .inl (K 1, 146, .inl z))] H ∧ va_D A [x0, x1, x2, x3, x4, x5, (q, .inl (K 1, 146, .inl z))] ∧ wOK 26 z) (upd w24 (25 : Int32).toNatClampNeg (vp_nar .byte 32)) ⟨hP, hD, wOK_s hW (by decide +kernel) (by decide +kernel)⟩ (fun w25 hPD => ?_)
  have hP := hPD.1
  have hD := hPD.2.1
  have hW := hPD.2.2
  refine lv_dup hx hb dX12_init_201 rfl ?_
  refine lv_bipush (v := 26) hx hb dX12_init_202 (by decide) ?_
  refine lv_bipush (v := 111) hx hb dX12_init_204 (by decide) ?_
  refine va_bast hx hb hK hP hD hS 6 1 rfl rfl (k_in (by decide +kernel)) dX12_init_206 (fun H locs hP hD hS => ?_)
  refine k_con (P := fun (z : Nat → Int32) => va_P D vwCl [x0, x1, x2, x3, x4, x5, (q, .inl (K 1, 146, .inl z))] H ∧ va_D A [x0, x1, x2, x3, x4, x5, (q, .inl (K 1, 146, .inl z))] ∧ wOK 27 z) (upd w25 (26 : Int32).toNatClampNeg (vp_nar .byte 111)) ⟨hP, hD, wOK_s hW (by decide +kernel) (by decide +kernel)⟩ (fun w26 hPD => ?_)
  have hP := hPD.1
  have hD := hPD.2.1
  have hW := hPD.2.2
  refine lv_dup hx hb dX12_init_207 rfl ?_
  refine lv_bipush (v := 27) hx hb dX12_init_208 (by decide) ?_
  refine lv_bipush (v := 114) hx hb dX12_init_210 (by decide) ?_
  refine va_bast hx hb hK hP hD hS 6 1 rfl rfl (k_in (by decide +kernel)) dX12_init_212 (fun H locs hP hD hS => ?_)
  refine k_con (P := fun (z : Nat → Int32) => va_P D vwCl [x0, x1, x2, x3, x4, x5, (q, .inl (K 1, 146, .inl z))] H ∧ va_D A [x0, x1, x2, x3, x4, x5, (q, .inl (K 1, 146, .inl z))] ∧ wOK 28 z) (upd w26 (27 : Int32).toNatClampNeg (vp_nar .byte 114)) ⟨hP, hD, wOK_s hW (by decide +kernel) (by decide +kernel)⟩ (fun w27 hPD => ?_)
  have hP := hPD.1
  have hD := hPD.2.1
  have hW := hPD.2.2
  refine lv_dup hx hb dX12_init_213 rfl ?_
  refine lv_bipush (v := 28) hx hb dX12_init_214 (by decide) ?_
  refine lv_bipush (v := 32) hx hb dX12_init_216 (by decide) ?_
  refine va_bast hx hb hK hP hD hS 6 1 rfl rfl (k_in (by decide +kernel)) dX12_init_218 (fun H locs hP hD hS => ?_)
  refine k_con (P := fun (z : Nat → Int32) => va_P D vwCl [x0, x1, x2, x3, x4, x5, (q, .inl (K 1, 146, .inl z))] H ∧ va_D A [x0, x1, x2, x3, x4, x5, (q, .inl (K 1, 146, .inl z))] ∧ wOK 29 z) (upd w27 (28 : Int32).toNatClampNeg (vp_nar .byte 32)) ⟨hP, hD, wOK_s hW (by decide +kernel) (by decide +kernel)⟩ (fun w28 hPD => ?_)
  have hP := hPD.1
  have hD := hPD.2.1
  have hW := hPD.2.2
  refine lv_dup hx hb dX12_init_219 rfl ?_
  refine lv_bipush (v := 29) hx hb dX12_init_220 (by decide) ?_
  refine lv_bipush (v := 97) hx hb dX12_init_222 (by decide) ?_
  refine va_bast hx hb hK hP hD hS 6 1 rfl rfl (k_in (by decide +kernel)) dX12_init_224 (fun H locs hP hD hS => ?_)
  refine k_con (P := fun (z : Nat → Int32) => va_P D vwCl [x0, x1, x2, x3, x4, x5, (q, .inl (K 1, 146, .inl z))] H ∧ va_D A [x0, x1, x2, x3, x4, x5, (q, .inl (K 1, 146, .inl z))] ∧ wOK 30 z) (upd w28 (29 : Int32).toNatClampNeg (vp_nar .byte 97)) ⟨hP, hD, wOK_s hW (by decide +kernel) (by decide +kernel)⟩ (fun w29 hPD => ?_)
  have hP := hPD.1
  have hD := hPD.2.1
  have hW := hPD.2.2
  refine lv_dup hx hb dX12_init_225 rfl ?_
  refine lv_bipush (v := 30) hx hb dX12_init_226 (by decide) ?_
  refine lv_bipush (v := 110) hx hb dX12_init_228 (by decide) ?_
  refine va_bast hx hb hK hP hD hS 6 1 rfl rfl (k_in (by decide +kernel)) dX12_init_230 (fun H locs hP hD hS => ?_)
  refine k_con (P := fun (z : Nat → Int32) => va_P D vwCl [x0, x1, x2, x3, x4, x5, (q, .inl (K 1, 146, .inl z))] H ∧ va_D A [x0, x1, x2, x3, x4, x5, (q, .inl (K 1, 146, .inl z))] ∧ wOK 31 z) (upd w29 (30 : Int32).toNatClampNeg (vp_nar .byte 110)) ⟨hP, hD, wOK_s hW (by decide +kernel) (by decide +kernel)⟩ (fun w30 hPD => ?_)
  have hP := hPD.1
  have hD := hPD.2.1
  have hW := hPD.2.2
  refine lv_dup hx hb dX12_init_231 rfl ?_
  refine lv_bipush (v := 31) hx hb dX12_init_232 (by decide) ?_
  refine lv_bipush (v := 100) hx hb dX12_init_234 (by decide) ?_
  refine va_bast hx hb hK hP hD hS 6 1 rfl rfl (k_in (by decide +kernel)) dX12_init_236 (fun H locs hP hD hS => ?_)
  refine k_con (P := fun (z : Nat → Int32) => va_P D vwCl [x0, x1, x2, x3, x4, x5, (q, .inl (K 1, 146, .inl z))] H ∧ va_D A [x0, x1, x2, x3, x4, x5, (q, .inl (K 1, 146, .inl z))] ∧ wOK 32 z) (upd w30 (31 : Int32).toNatClampNeg (vp_nar .byte 100)) ⟨hP, hD, wOK_s hW (by decide +kernel) (by decide +kernel)⟩ (fun w31 hPD => ?_)
  have hP := hPD.1
  have hD := hPD.2.1
  have hW := hPD.2.2
  refine lv_dup hx hb dX12_init_237 rfl ?_
  refine lv_bipush (v := 32) hx hb dX12_init_238 (by decide) ?_
  refine lv_bipush (v := 32) hx hb dX12_init_240 (by decide) ?_
  refine va_bast hx hb hK hP hD hS 6 1 rfl rfl (k_in (by decide +kernel)) dX12_init_242 (fun H locs hP hD hS => ?_)
  refine k_con (P := fun (z : Nat → Int32) => va_P D vwCl [x0, x1, x2, x3, x4, x5, (q, .inl (K 1, 146, .inl z))] H ∧ va_D A [x0, x1, x2, x3, x4, x5, (q, .inl (K 1, 146, .inl z))] ∧ wOK 33 z) (upd w31 (32 : Int32).toNatClampNeg (vp_nar .byte 32)) ⟨hP, hD, wOK_s hW (by decide +kernel) (by decide +kernel)⟩ (fun w32 hPD => ?_)
  have hP := hPD.1
  have hD := hPD.2.1
  have hW := hPD.2.2
  refine lv_dup hx hb dX12_init_243 rfl ?_
  refine lv_bipush (v := 33) hx hb dX12_init_244 (by decide) ?_
  refine lv_bipush (v := 110) hx hb dX12_init_246 (by decide) ?_
  refine va_bast hx hb hK hP hD hS 6 1 rfl rfl (k_in (by decide +kernel)) dX12_init_248 (fun H locs hP hD hS => ?_)
  refine k_con (P := fun (z : Nat → Int32) => va_P D vwCl [x0, x1, x2, x3, x4, x5, (q, .inl (K 1, 146, .inl z))] H ∧ va_D A [x0, x1, x2, x3, x4, x5, (q, .inl (K 1, 146, .inl z))] ∧ wOK 34 z) (upd w32 (33 : Int32).toNatClampNeg (vp_nar .byte 110)) ⟨hP, hD, wOK_s hW (by decide +kernel) (by decide +kernel)⟩ (fun w33 hPD => ?_)
  have hP := hPD.1
  have hD := hPD.2.1
  have hW := hPD.2.2
  refine lv_dup hx hb dX12_init_249 rfl ?_
  refine lv_bipush (v := 34) hx hb dX12_init_250 (by decide) ?_
  refine lv_bipush (v := 111) hx hb dX12_init_252 (by decide) ?_
  refine va_bast hx hb hK hP hD hS 6 1 rfl rfl (k_in (by decide +kernel)) dX12_init_254 (fun H locs hP hD hS => ?_)
  refine k_con (P := fun (z : Nat → Int32) => va_P D vwCl [x0, x1, x2, x3, x4, x5, (q, .inl (K 1, 146, .inl z))] H ∧ va_D A [x0, x1, x2, x3, x4, x5, (q, .inl (K 1, 146, .inl z))] ∧ wOK 35 z) (upd w33 (34 : Int32).toNatClampNeg (vp_nar .byte 111)) ⟨hP, hD, wOK_s hW (by decide +kernel) (by decide +kernel)⟩ (fun w34 hPD => ?_)
  have hP := hPD.1
  have hD := hPD.2.1
  have hW := hPD.2.2
  refine lv_dup hx hb dX12_init_255 rfl ?_
  refine lv_bipush (v := 35) hx hb dX12_init_256 (by decide) ?_
  refine lv_bipush (v := 116) hx hb dX12_init_258 (by decide) ?_
  refine va_bast hx hb hK hP hD hS 6 1 rfl rfl (k_in (by decide +kernel)) dX12_init_260 (fun H locs hP hD hS => ?_)
  refine k_con (P := fun (z : Nat → Int32) => va_P D vwCl [x0, x1, x2, x3, x4, x5, (q, .inl (K 1, 146, .inl z))] H ∧ va_D A [x0, x1, x2, x3, x4, x5, (q, .inl (K 1, 146, .inl z))] ∧ wOK 36 z) (upd w34 (35 : Int32).toNatClampNeg (vp_nar .byte 116)) ⟨hP, hD, wOK_s hW (by decide +kernel) (by decide +kernel)⟩ (fun w35 hPD => ?_)
  have hP := hPD.1
  have hD := hPD.2.1
  have hW := hPD.2.2
  refine lv_dup hx hb dX12_init_261 rfl ?_
  refine lv_bipush (v := 36) hx hb dX12_init_262 (by decide) ?_
  refine lv_bipush (v := 32) hx hb dX12_init_264 (by decide) ?_
  refine va_bast hx hb hK hP hD hS 6 1 rfl rfl (k_in (by decide +kernel)) dX12_init_266 (fun H locs hP hD hS => ?_)
  refine k_con (P := fun (z : Nat → Int32) => va_P D vwCl [x0, x1, x2, x3, x4, x5, (q, .inl (K 1, 146, .inl z))] H ∧ va_D A [x0, x1, x2, x3, x4, x5, (q, .inl (K 1, 146, .inl z))] ∧ wOK 37 z) (upd w35 (36 : Int32).toNatClampNeg (vp_nar .byte 32)) ⟨hP, hD, wOK_s hW (by decide +kernel) (by decide +kernel)⟩ (fun w36 hPD => ?_)
  have hP := hPD.1
  have hD := hPD.2.1
  have hW := hPD.2.2
  exact kk _ _ _ hP hD hS hW
set_option maxHeartbeats 4000000 in
set_option maxRecDepth 100000 in
theorem c_iw2 {D : va_G} {K : Nat → ClassId} {p : Program} {e : Env} {s : State} {m : MethodId} {below : List Frame} {meth : Method} {c : Code} {A : Nat → Prop} (l : Launch) (hx : p.tables.exec = Jvm.exec) (hb : c.code = cX12_init) (hK : va_K D vwCl (tysK K) s) {x0 x1 x2 x3 x4 x5 : Nat × va_E} {q o : Nat} {rm : Room} {args : Array Value} {cc ss : Nat} {Q : State → Prop} {ls : Array Slot} {w : Nat → Int32} {H : Heap} {locs : List Loc} (hP : va_P D vwCl [x0, x1, x2, x3, x4, x5, (q, .inl (K 1, 146, .inl w))] H) (hD : va_D A [x0, x1, x2, x3, x4, x5, (q, .inl (K 1, 146, .inl w))]) (hS : va_S A s.heap H locs) (hW : wOK 37 w) (kk : ∀ (w : Nat → Int32) (H : Heap) (locs : List Loc), va_P D vwCl [x0, x1, x2, x3, x4, x5, (q, .inl (K 1, 146, .inl w))] H → va_D A [x0, x1, x2, x3, x4, x5, (q, .inl (K 1, 146, .inl w))] → va_S A s.heap H locs → wOK 74 w → W p l e rm s m args below meth c H locs cc ss Q (F0 m 489 ls [.ref q, .ref o])) : W p l e rm s m args below meth c H locs cc ss Q (F0 m 267 ls [.ref q, .ref o]) := by
  refine lv_dup hx hb dX12_init_267 rfl ?_
  refine lv_bipush (v := 37) hx hb dX12_init_268 (by decide) ?_
  refine lv_bipush (v := 98) hx hb dX12_init_270 (by decide) ?_
  refine va_bast hx hb hK hP hD hS 6 1 rfl rfl (k_in (by decide +kernel)) dX12_init_272 (fun H locs hP hD hS => ?_)
  refine k_con (P := fun (z : Nat → Int32) => va_P D vwCl [x0, x1, x2, x3, x4, x5, (q, .inl (K 1, 146, .inl z))] H ∧ va_D A [x0, x1, x2, x3, x4, x5, (q, .inl (K 1, 146, .inl z))] ∧ wOK 38 z) (upd w (37 : Int32).toNatClampNeg (vp_nar .byte 98)) ⟨hP, hD, wOK_s hW (by decide +kernel) (by decide +kernel)⟩ (fun w37 hPD => ?_)
  have hP := hPD.1
  have hD := hPD.2.1
  have hW := hPD.2.2
  refine lv_dup hx hb dX12_init_273 rfl ?_
  refine lv_bipush (v := 38) hx hb dX12_init_274 (by decide) ?_
  refine lv_bipush (v := 117) hx hb dX12_init_276 (by decide) ?_
  refine va_bast hx hb hK hP hD hS 6 1 rfl rfl (k_in (by decide +kernel)) dX12_init_278 (fun H locs hP hD hS => ?_)
  refine k_con (P := fun (z : Nat → Int32) => va_P D vwCl [x0, x1, x2, x3, x4, x5, (q, .inl (K 1, 146, .inl z))] H ∧ va_D A [x0, x1, x2, x3, x4, x5, (q, .inl (K 1, 146, .inl z))] ∧ wOK 39 z) (upd w37 (38 : Int32).toNatClampNeg (vp_nar .byte 117)) ⟨hP, hD, wOK_s hW (by decide +kernel) (by decide +kernel)⟩ (fun w38 hPD => ?_)
  have hP := hPD.1
  have hD := hPD.2.1
  have hW := hPD.2.2
  refine lv_dup hx hb dX12_init_279 rfl ?_
  refine lv_bipush (v := 39) hx hb dX12_init_280 (by decide) ?_
  refine lv_bipush (v := 105) hx hb dX12_init_282 (by decide) ?_
  refine va_bast hx hb hK hP hD hS 6 1 rfl rfl (k_in (by decide +kernel)) dX12_init_284 (fun H locs hP hD hS => ?_)
  refine k_con (P := fun (z : Nat → Int32) => va_P D vwCl [x0, x1, x2, x3, x4, x5, (q, .inl (K 1, 146, .inl z))] H ∧ va_D A [x0, x1, x2, x3, x4, x5, (q, .inl (K 1, 146, .inl z))] ∧ wOK 40 z) (upd w38 (39 : Int32).toNatClampNeg (vp_nar .byte 105)) ⟨hP, hD, wOK_s hW (by decide +kernel) (by decide +kernel)⟩ (fun w39 hPD => ?_)
  have hP := hPD.1
  have hD := hPD.2.1
  have hW := hPD.2.2
  refine lv_dup hx hb dX12_init_285 rfl ?_
  refine lv_bipush (v := 40) hx hb dX12_init_286 (by decide) ?_
  refine lv_bipush (v := 108) hx hb dX12_init_288 (by decide) ?_
  refine va_bast hx hb hK hP hD hS 6 1 rfl rfl (k_in (by decide +kernel)) dX12_init_290 (fun H locs hP hD hS => ?_)
  refine k_con (P := fun (z : Nat → Int32) => va_P D vwCl [x0, x1, x2, x3, x4, x5, (q, .inl (K 1, 146, .inl z))] H ∧ va_D A [x0, x1, x2, x3, x4, x5, (q, .inl (K 1, 146, .inl z))] ∧ wOK 41 z) (upd w39 (40 : Int32).toNatClampNeg (vp_nar .byte 108)) ⟨hP, hD, wOK_s hW (by decide +kernel) (by decide +kernel)⟩ (fun w40 hPD => ?_)
  have hP := hPD.1
  have hD := hPD.2.1
  have hW := hPD.2.2
  refine lv_dup hx hb dX12_init_291 rfl ?_
  refine lv_bipush (v := 41) hx hb dX12_init_292 (by decide) ?_
  refine lv_bipush (v := 100) hx hb dX12_init_294 (by decide) ?_
  refine va_bast hx hb hK hP hD hS 6 1 rfl rfl (k_in (by decide +kernel)) dX12_init_296 (fun H locs hP hD hS => ?_)
  refine k_con (P := fun (z : Nat → Int32) => va_P D vwCl [x0, x1, x2, x3, x4, x5, (q, .inl (K 1, 146, .inl z))] H ∧ va_D A [x0, x1, x2, x3, x4, x5, (q, .inl (K 1, 146, .inl z))] ∧ wOK 42 z) (upd w40 (41 : Int32).toNatClampNeg (vp_nar .byte 100)) ⟨hP, hD, wOK_s hW (by decide +kernel) (by decide +kernel)⟩ (fun w41 hPD => ?_)
  have hP := hPD.1
  have hD := hPD.2.1
  have hW := hPD.2.2
  refine lv_dup hx hb dX12_init_297 rfl ?_
  refine lv_bipush (v := 42) hx hb dX12_init_298 (by decide) ?_
  refine lv_bipush (v := 101) hx hb dX12_init_300 (by decide) ?_
  refine va_bast hx hb hK hP hD hS 6 1 rfl rfl (k_in (by decide +kernel)) dX12_init_302 (fun H locs hP hD hS => ?_)
  refine k_con (P := fun (z : Nat → Int32) => va_P D vwCl [x0, x1, x2, x3, x4, x5, (q, .inl (K 1, 146, .inl z))] H ∧ va_D A [x0, x1, x2, x3, x4, x5, (q, .inl (K 1, 146, .inl z))] ∧ wOK 43 z) (upd w41 (42 : Int32).toNatClampNeg (vp_nar .byte 101)) ⟨hP, hD, wOK_s hW (by decide +kernel) (by decide +kernel)⟩ (fun w42 hPD => ?_)
  have hP := hPD.1
  have hD := hPD.2.1
  have hW := hPD.2.2
  refine lv_dup hx hb dX12_init_303 rfl ?_
  refine lv_bipush (v := 43) hx hb dX12_init_304 (by decide) ?_
  refine lv_bipush (v := 114) hx hb dX12_init_306 (by decide) ?_
  refine va_bast hx hb hK hP hD hS 6 1 rfl rfl (k_in (by decide +kernel)) dX12_init_308 (fun H locs hP hD hS => ?_)
  refine k_con (P := fun (z : Nat → Int32) => va_P D vwCl [x0, x1, x2, x3, x4, x5, (q, .inl (K 1, 146, .inl z))] H ∧ va_D A [x0, x1, x2, x3, x4, x5, (q, .inl (K 1, 146, .inl z))] ∧ wOK 44 z) (upd w42 (43 : Int32).toNatClampNeg (vp_nar .byte 114)) ⟨hP, hD, wOK_s hW (by decide +kernel) (by decide +kernel)⟩ (fun w43 hPD => ?_)
  have hP := hPD.1
  have hD := hPD.2.1
  have hW := hPD.2.2
  refine lv_dup hx hb dX12_init_309 rfl ?_
  refine lv_bipush (v := 44) hx hb dX12_init_310 (by decide) ?_
  refine lv_bipush (v := 32) hx hb dX12_init_312 (by decide) ?_
  refine va_bast hx hb hK hP hD hS 6 1 rfl rfl (k_in (by decide +kernel)) dX12_init_314 (fun H locs hP hD hS => ?_)
  refine k_con (P := fun (z : Nat → Int32) => va_P D vwCl [x0, x1, x2, x3, x4, x5, (q, .inl (K 1, 146, .inl z))] H ∧ va_D A [x0, x1, x2, x3, x4, x5, (q, .inl (K 1, 146, .inl z))] ∧ wOK 45 z) (upd w43 (44 : Int32).toNatClampNeg (vp_nar .byte 32)) ⟨hP, hD, wOK_s hW (by decide +kernel) (by decide +kernel)⟩ (fun w44 hPD => ?_)
  have hP := hPD.1
  have hD := hPD.2.1
  have hW := hPD.2.2
  refine lv_dup hx hb dX12_init_315 rfl ?_
  refine lv_bipush (v := 45) hx hb dX12_init_316 (by decide) ?_
  refine lv_bipush (v := 112) hx hb dX12_init_318 (by decide) ?_
  refine va_bast hx hb hK hP hD hS 6 1 rfl rfl (k_in (by decide +kernel)) dX12_init_320 (fun H locs hP hD hS => ?_)
  refine k_con (P := fun (z : Nat → Int32) => va_P D vwCl [x0, x1, x2, x3, x4, x5, (q, .inl (K 1, 146, .inl z))] H ∧ va_D A [x0, x1, x2, x3, x4, x5, (q, .inl (K 1, 146, .inl z))] ∧ wOK 46 z) (upd w44 (45 : Int32).toNatClampNeg (vp_nar .byte 112)) ⟨hP, hD, wOK_s hW (by decide +kernel) (by decide +kernel)⟩ (fun w45 hPD => ?_)
  have hP := hPD.1
  have hD := hPD.2.1
  have hW := hPD.2.2
  refine lv_dup hx hb dX12_init_321 rfl ?_
  refine lv_bipush (v := 46) hx hb dX12_init_322 (by decide) ?_
  refine lv_bipush (v := 97) hx hb dX12_init_324 (by decide) ?_
  refine va_bast hx hb hK hP hD hS 6 1 rfl rfl (k_in (by decide +kernel)) dX12_init_326 (fun H locs hP hD hS => ?_)
  refine k_con (P := fun (z : Nat → Int32) => va_P D vwCl [x0, x1, x2, x3, x4, x5, (q, .inl (K 1, 146, .inl z))] H ∧ va_D A [x0, x1, x2, x3, x4, x5, (q, .inl (K 1, 146, .inl z))] ∧ wOK 47 z) (upd w45 (46 : Int32).toNatClampNeg (vp_nar .byte 97)) ⟨hP, hD, wOK_s hW (by decide +kernel) (by decide +kernel)⟩ (fun w46 hPD => ?_)
  have hP := hPD.1
  have hD := hPD.2.1
  have hW := hPD.2.2
  refine lv_dup hx hb dX12_init_327 rfl ?_
  refine lv_bipush (v := 47) hx hb dX12_init_328 (by decide) ?_
  refine lv_bipush (v := 99) hx hb dX12_init_330 (by decide) ?_
  refine va_bast hx hb hK hP hD hS 6 1 rfl rfl (k_in (by decide +kernel)) dX12_init_332 (fun H locs hP hD hS => ?_)
  refine k_con (P := fun (z : Nat → Int32) => va_P D vwCl [x0, x1, x2, x3, x4, x5, (q, .inl (K 1, 146, .inl z))] H ∧ va_D A [x0, x1, x2, x3, x4, x5, (q, .inl (K 1, 146, .inl z))] ∧ wOK 48 z) (upd w46 (47 : Int32).toNatClampNeg (vp_nar .byte 99)) ⟨hP, hD, wOK_s hW (by decide +kernel) (by decide +kernel)⟩ (fun w47 hPD => ?_)
  have hP := hPD.1
  have hD := hPD.2.1
  have hW := hPD.2.2
  refine lv_dup hx hb dX12_init_333 rfl ?_
  refine lv_bipush (v := 48) hx hb dX12_init_334 (by decide) ?_
  refine lv_bipush (v := 101) hx hb dX12_init_336 (by decide) ?_
  refine va_bast hx hb hK hP hD hS 6 1 rfl rfl (k_in (by decide +kernel)) dX12_init_338 (fun H locs hP hD hS => ?_)
  refine k_con (P := fun (z : Nat → Int32) => va_P D vwCl [x0, x1, x2, x3, x4, x5, (q, .inl (K 1, 146, .inl z))] H ∧ va_D A [x0, x1, x2, x3, x4, x5, (q, .inl (K 1, 146, .inl z))] ∧ wOK 49 z) (upd w47 (48 : Int32).toNatClampNeg (vp_nar .byte 101)) ⟨hP, hD, wOK_s hW (by decide +kernel) (by decide +kernel)⟩ (fun w48 hPD => ?_)
  have hP := hPD.1
  have hD := hPD.2.1
  have hW := hPD.2.2
  refine lv_dup hx hb dX12_init_339 rfl ?_
  refine lv_bipush (v := 49) hx hb dX12_init_340 (by decide) ?_
  refine lv_bipush (v := 32) hx hb dX12_init_342 (by decide) ?_
  refine va_bast hx hb hK hP hD hS 6 1 rfl rfl (k_in (by decide +kernel)) dX12_init_344 (fun H locs hP hD hS => ?_)
  refine k_con (P := fun (z : Nat → Int32) => va_P D vwCl [x0, x1, x2, x3, x4, x5, (q, .inl (K 1, 146, .inl z))] H ∧ va_D A [x0, x1, x2, x3, x4, x5, (q, .inl (K 1, 146, .inl z))] ∧ wOK 50 z) (upd w48 (49 : Int32).toNatClampNeg (vp_nar .byte 32)) ⟨hP, hD, wOK_s hW (by decide +kernel) (by decide +kernel)⟩ (fun w49 hPD => ?_)
  have hP := hPD.1
  have hD := hPD.2.1
  have hW := hPD.2.2
  refine lv_dup hx hb dX12_init_345 rfl ?_
  refine lv_bipush (v := 50) hx hb dX12_init_346 (by decide) ?_
  refine lv_bipush (v := 112) hx hb dX12_init_348 (by decide) ?_
  refine va_bast hx hb hK hP hD hS 6 1 rfl rfl (k_in (by decide +kernel)) dX12_init_350 (fun H locs hP hD hS => ?_)
  refine k_con (P := fun (z : Nat → Int32) => va_P D vwCl [x0, x1, x2, x3, x4, x5, (q, .inl (K 1, 146, .inl z))] H ∧ va_D A [x0, x1, x2, x3, x4, x5, (q, .inl (K 1, 146, .inl z))] ∧ wOK 51 z) (upd w49 (50 : Int32).toNatClampNeg (vp_nar .byte 112)) ⟨hP, hD, wOK_s hW (by decide +kernel) (by decide +kernel)⟩ (fun w50 hPD => ?_)
  have hP := hPD.1
  have hD := hPD.2.1
  have hW := hPD.2.2
  refine lv_dup hx hb dX12_init_351 rfl ?_
  refine lv_bipush (v := 51) hx hb dX12_init_352 (by decide) ?_
  refine lv_bipush (v := 97) hx hb dX12_init_354 (by decide) ?_
  refine va_bast hx hb hK hP hD hS 6 1 rfl rfl (k_in (by decide +kernel)) dX12_init_356 (fun H locs hP hD hS => ?_)
  refine k_con (P := fun (z : Nat → Int32) => va_P D vwCl [x0, x1, x2, x3, x4, x5, (q, .inl (K 1, 146, .inl z))] H ∧ va_D A [x0, x1, x2, x3, x4, x5, (q, .inl (K 1, 146, .inl z))] ∧ wOK 52 z) (upd w50 (51 : Int32).toNatClampNeg (vp_nar .byte 97)) ⟨hP, hD, wOK_s hW (by decide +kernel) (by decide +kernel)⟩ (fun w51 hPD => ?_)
  have hP := hPD.1
  have hD := hPD.2.1
  have hW := hPD.2.2
  refine lv_dup hx hb dX12_init_357 rfl ?_
  refine lv_bipush (v := 52) hx hb dX12_init_358 (by decide) ?_
  refine lv_bipush (v := 114) hx hb dX12_init_360 (by decide) ?_
  refine va_bast hx hb hK hP hD hS 6 1 rfl rfl (k_in (by decide +kernel)) dX12_init_362 (fun H locs hP hD hS => ?_)
  refine k_con (P := fun (z : Nat → Int32) => va_P D vwCl [x0, x1, x2, x3, x4, x5, (q, .inl (K 1, 146, .inl z))] H ∧ va_D A [x0, x1, x2, x3, x4, x5, (q, .inl (K 1, 146, .inl z))] ∧ wOK 53 z) (upd w51 (52 : Int32).toNatClampNeg (vp_nar .byte 114)) ⟨hP, hD, wOK_s hW (by decide +kernel) (by decide +kernel)⟩ (fun w52 hPD => ?_)
  have hP := hPD.1
  have hD := hPD.2.1
  have hW := hPD.2.2
  refine lv_dup hx hb dX12_init_363 rfl ?_
  refine lv_bipush (v := 53) hx hb dX12_init_364 (by decide) ?_
  refine lv_bipush (v := 116) hx hb dX12_init_366 (by decide) ?_
  refine va_bast hx hb hK hP hD hS 6 1 rfl rfl (k_in (by decide +kernel)) dX12_init_368 (fun H locs hP hD hS => ?_)
  refine k_con (P := fun (z : Nat → Int32) => va_P D vwCl [x0, x1, x2, x3, x4, x5, (q, .inl (K 1, 146, .inl z))] H ∧ va_D A [x0, x1, x2, x3, x4, x5, (q, .inl (K 1, 146, .inl z))] ∧ wOK 54 z) (upd w52 (53 : Int32).toNatClampNeg (vp_nar .byte 116)) ⟨hP, hD, wOK_s hW (by decide +kernel) (by decide +kernel)⟩ (fun w53 hPD => ?_)
  have hP := hPD.1
  have hD := hPD.2.1
  have hW := hPD.2.2
  refine lv_dup hx hb dX12_init_369 rfl ?_
  refine lv_bipush (v := 54) hx hb dX12_init_370 (by decide) ?_
  refine lv_bipush (v := 32) hx hb dX12_init_372 (by decide) ?_
  refine va_bast hx hb hK hP hD hS 6 1 rfl rfl (k_in (by decide +kernel)) dX12_init_374 (fun H locs hP hD hS => ?_)
  refine k_con (P := fun (z : Nat → Int32) => va_P D vwCl [x0, x1, x2, x3, x4, x5, (q, .inl (K 1, 146, .inl z))] H ∧ va_D A [x0, x1, x2, x3, x4, x5, (q, .inl (K 1, 146, .inl z))] ∧ wOK 55 z) (upd w53 (54 : Int32).toNatClampNeg (vp_nar .byte 32)) ⟨hP, hD, wOK_s hW (by decide +kernel) (by decide +kernel)⟩ (fun w54 hPD => ?_)
  have hP := hPD.1
  have hD := hPD.2.1
  have hW := hPD.2.2
  refine lv_dup hx hb dX12_init_375 rfl ?_
  refine lv_bipush (v := 55) hx hb dX12_init_376 (by decide) ?_
  refine lv_bipush (v := 99) hx hb dX12_init_378 (by decide) ?_
  refine va_bast hx hb hK hP hD hS 6 1 rfl rfl (k_in (by decide +kernel)) dX12_init_380 (fun H locs hP hD hS => ?_)
  refine k_con (P := fun (z : Nat → Int32) => va_P D vwCl [x0, x1, x2, x3, x4, x5, (q, .inl (K 1, 146, .inl z))] H ∧ va_D A [x0, x1, x2, x3, x4, x5, (q, .inl (K 1, 146, .inl z))] ∧ wOK 56 z) (upd w54 (55 : Int32).toNatClampNeg (vp_nar .byte 99)) ⟨hP, hD, wOK_s hW (by decide +kernel) (by decide +kernel)⟩ (fun w55 hPD => ?_)
  have hP := hPD.1
  have hD := hPD.2.1
  have hW := hPD.2.2
  refine lv_dup hx hb dX12_init_381 rfl ?_
  refine lv_bipush (v := 56) hx hb dX12_init_382 (by decide) ?_
  refine lv_bipush (v := 114) hx hb dX12_init_384 (by decide) ?_
  refine va_bast hx hb hK hP hD hS 6 1 rfl rfl (k_in (by decide +kernel)) dX12_init_386 (fun H locs hP hD hS => ?_)
  refine k_con (P := fun (z : Nat → Int32) => va_P D vwCl [x0, x1, x2, x3, x4, x5, (q, .inl (K 1, 146, .inl z))] H ∧ va_D A [x0, x1, x2, x3, x4, x5, (q, .inl (K 1, 146, .inl z))] ∧ wOK 57 z) (upd w55 (56 : Int32).toNatClampNeg (vp_nar .byte 114)) ⟨hP, hD, wOK_s hW (by decide +kernel) (by decide +kernel)⟩ (fun w56 hPD => ?_)
  have hP := hPD.1
  have hD := hPD.2.1
  have hW := hPD.2.2
  refine lv_dup hx hb dX12_init_387 rfl ?_
  refine lv_bipush (v := 57) hx hb dX12_init_388 (by decide) ?_
  refine lv_bipush (v := 97) hx hb dX12_init_390 (by decide) ?_
  refine va_bast hx hb hK hP hD hS 6 1 rfl rfl (k_in (by decide +kernel)) dX12_init_392 (fun H locs hP hD hS => ?_)
  refine k_con (P := fun (z : Nat → Int32) => va_P D vwCl [x0, x1, x2, x3, x4, x5, (q, .inl (K 1, 146, .inl z))] H ∧ va_D A [x0, x1, x2, x3, x4, x5, (q, .inl (K 1, 146, .inl z))] ∧ wOK 58 z) (upd w56 (57 : Int32).toNatClampNeg (vp_nar .byte 97)) ⟨hP, hD, wOK_s hW (by decide +kernel) (by decide +kernel)⟩ (fun w57 hPD => ?_)
  have hP := hPD.1
  have hD := hPD.2.1
  have hW := hPD.2.2
  refine lv_dup hx hb dX12_init_393 rfl ?_
  refine lv_bipush (v := 58) hx hb dX12_init_394 (by decide) ?_
  refine lv_bipush (v := 102) hx hb dX12_init_396 (by decide) ?_
  refine va_bast hx hb hK hP hD hS 6 1 rfl rfl (k_in (by decide +kernel)) dX12_init_398 (fun H locs hP hD hS => ?_)
  refine k_con (P := fun (z : Nat → Int32) => va_P D vwCl [x0, x1, x2, x3, x4, x5, (q, .inl (K 1, 146, .inl z))] H ∧ va_D A [x0, x1, x2, x3, x4, x5, (q, .inl (K 1, 146, .inl z))] ∧ wOK 59 z) (upd w57 (58 : Int32).toNatClampNeg (vp_nar .byte 102)) ⟨hP, hD, wOK_s hW (by decide +kernel) (by decide +kernel)⟩ (fun w58 hPD => ?_)
  have hP := hPD.1
  have hD := hPD.2.1
  have hW := hPD.2.2
  refine lv_dup hx hb dX12_init_399 rfl ?_
  refine lv_bipush (v := 59) hx hb dX12_init_400 (by decide) ?_
  refine lv_bipush (v := 116) hx hb dX12_init_402 (by decide) ?_
  refine va_bast hx hb hK hP hD hS 6 1 rfl rfl (k_in (by decide +kernel)) dX12_init_404 (fun H locs hP hD hS => ?_)
  refine k_con (P := fun (z : Nat → Int32) => va_P D vwCl [x0, x1, x2, x3, x4, x5, (q, .inl (K 1, 146, .inl z))] H ∧ va_D A [x0, x1, x2, x3, x4, x5, (q, .inl (K 1, 146, .inl z))] ∧ wOK 60 z) (upd w58 (59 : Int32).toNatClampNeg (vp_nar .byte 116)) ⟨hP, hD, wOK_s hW (by decide +kernel) (by decide +kernel)⟩ (fun w59 hPD => ?_)
  have hP := hPD.1
  have hD := hPD.2.1
  have hW := hPD.2.2
  refine lv_dup hx hb dX12_init_405 rfl ?_
  refine lv_bipush (v := 60) hx hb dX12_init_406 (by decide) ?_
  refine lv_bipush (v := 32) hx hb dX12_init_408 (by decide) ?_
  refine va_bast hx hb hK hP hD hS 6 1 rfl rfl (k_in (by decide +kernel)) dX12_init_410 (fun H locs hP hD hS => ?_)
  refine k_con (P := fun (z : Nat → Int32) => va_P D vwCl [x0, x1, x2, x3, x4, x5, (q, .inl (K 1, 146, .inl z))] H ∧ va_D A [x0, x1, x2, x3, x4, x5, (q, .inl (K 1, 146, .inl z))] ∧ wOK 61 z) (upd w59 (60 : Int32).toNatClampNeg (vp_nar .byte 32)) ⟨hP, hD, wOK_s hW (by decide +kernel) (by decide +kernel)⟩ (fun w60 hPD => ?_)
  have hP := hPD.1
  have hD := hPD.2.1
  have hW := hPD.2.2
  refine lv_dup hx hb dX12_init_411 rfl ?_
  refine lv_bipush (v := 61) hx hb dX12_init_412 (by decide) ?_
  refine lv_bipush (v := 104) hx hb dX12_init_414 (by decide) ?_
  refine va_bast hx hb hK hP hD hS 6 1 rfl rfl (k_in (by decide +kernel)) dX12_init_416 (fun H locs hP hD hS => ?_)
  refine k_con (P := fun (z : Nat → Int32) => va_P D vwCl [x0, x1, x2, x3, x4, x5, (q, .inl (K 1, 146, .inl z))] H ∧ va_D A [x0, x1, x2, x3, x4, x5, (q, .inl (K 1, 146, .inl z))] ∧ wOK 62 z) (upd w60 (61 : Int32).toNatClampNeg (vp_nar .byte 104)) ⟨hP, hD, wOK_s hW (by decide +kernel) (by decide +kernel)⟩ (fun w61 hPD => ?_)
  have hP := hPD.1
  have hD := hPD.2.1
  have hW := hPD.2.2
  refine lv_dup hx hb dX12_init_417 rfl ?_
  refine lv_bipush (v := 62) hx hb dX12_init_418 (by decide) ?_
  refine lv_bipush (v := 101) hx hb dX12_init_420 (by decide) ?_
  refine va_bast hx hb hK hP hD hS 6 1 rfl rfl (k_in (by decide +kernel)) dX12_init_422 (fun H locs hP hD hS => ?_)
  refine k_con (P := fun (z : Nat → Int32) => va_P D vwCl [x0, x1, x2, x3, x4, x5, (q, .inl (K 1, 146, .inl z))] H ∧ va_D A [x0, x1, x2, x3, x4, x5, (q, .inl (K 1, 146, .inl z))] ∧ wOK 63 z) (upd w61 (62 : Int32).toNatClampNeg (vp_nar .byte 101)) ⟨hP, hD, wOK_s hW (by decide +kernel) (by decide +kernel)⟩ (fun w62 hPD => ?_)
  have hP := hPD.1
  have hD := hPD.2.1
  have hW := hPD.2.2
  refine lv_dup hx hb dX12_init_423 rfl ?_
  refine lv_bipush (v := 63) hx hb dX12_init_424 (by decide) ?_
  refine lv_bipush (v := 97) hx hb dX12_init_426 (by decide) ?_
  refine va_bast hx hb hK hP hD hS 6 1 rfl rfl (k_in (by decide +kernel)) dX12_init_428 (fun H locs hP hD hS => ?_)
  refine k_con (P := fun (z : Nat → Int32) => va_P D vwCl [x0, x1, x2, x3, x4, x5, (q, .inl (K 1, 146, .inl z))] H ∧ va_D A [x0, x1, x2, x3, x4, x5, (q, .inl (K 1, 146, .inl z))] ∧ wOK 64 z) (upd w62 (63 : Int32).toNatClampNeg (vp_nar .byte 97)) ⟨hP, hD, wOK_s hW (by decide +kernel) (by decide +kernel)⟩ (fun w63 hPD => ?_)
  have hP := hPD.1
  have hD := hPD.2.1
  have hW := hPD.2.2
  refine lv_dup hx hb dX12_init_429 rfl ?_
  refine lv_bipush (v := 64) hx hb dX12_init_430 (by decide) ?_
  refine lv_bipush (v := 118) hx hb dX12_init_432 (by decide) ?_
  refine va_bast hx hb hK hP hD hS 6 1 rfl rfl (k_in (by decide +kernel)) dX12_init_434 (fun H locs hP hD hS => ?_)
  refine k_con (P := fun (z : Nat → Int32) => va_P D vwCl [x0, x1, x2, x3, x4, x5, (q, .inl (K 1, 146, .inl z))] H ∧ va_D A [x0, x1, x2, x3, x4, x5, (q, .inl (K 1, 146, .inl z))] ∧ wOK 65 z) (upd w63 (64 : Int32).toNatClampNeg (vp_nar .byte 118)) ⟨hP, hD, wOK_s hW (by decide +kernel) (by decide +kernel)⟩ (fun w64 hPD => ?_)
  have hP := hPD.1
  have hD := hPD.2.1
  have hW := hPD.2.2
  refine lv_dup hx hb dX12_init_435 rfl ?_
  refine lv_bipush (v := 65) hx hb dX12_init_436 (by decide) ?_
  refine lv_bipush (v := 121) hx hb dX12_init_438 (by decide) ?_
  refine va_bast hx hb hK hP hD hS 6 1 rfl rfl (k_in (by decide +kernel)) dX12_init_440 (fun H locs hP hD hS => ?_)
  refine k_con (P := fun (z : Nat → Int32) => va_P D vwCl [x0, x1, x2, x3, x4, x5, (q, .inl (K 1, 146, .inl z))] H ∧ va_D A [x0, x1, x2, x3, x4, x5, (q, .inl (K 1, 146, .inl z))] ∧ wOK 66 z) (upd w64 (65 : Int32).toNatClampNeg (vp_nar .byte 121)) ⟨hP, hD, wOK_s hW (by decide +kernel) (by decide +kernel)⟩ (fun w65 hPD => ?_)
  have hP := hPD.1
  have hD := hPD.2.1
  have hW := hPD.2.2
  refine lv_dup hx hb dX12_init_441 rfl ?_
  refine lv_bipush (v := 66) hx hb dX12_init_442 (by decide) ?_
  refine lv_bipush (v := 32) hx hb dX12_init_444 (by decide) ?_
  refine va_bast hx hb hK hP hD hS 6 1 rfl rfl (k_in (by decide +kernel)) dX12_init_446 (fun H locs hP hD hS => ?_)
  refine k_con (P := fun (z : Nat → Int32) => va_P D vwCl [x0, x1, x2, x3, x4, x5, (q, .inl (K 1, 146, .inl z))] H ∧ va_D A [x0, x1, x2, x3, x4, x5, (q, .inl (K 1, 146, .inl z))] ∧ wOK 67 z) (upd w65 (66 : Int32).toNatClampNeg (vp_nar .byte 32)) ⟨hP, hD, wOK_s hW (by decide +kernel) (by decide +kernel)⟩ (fun w66 hPD => ?_)
  have hP := hPD.1
  have hD := hPD.2.1
  have hW := hPD.2.2
  refine lv_dup hx hb dX12_init_447 rfl ?_
  refine lv_bipush (v := 67) hx hb dX12_init_448 (by decide) ?_
  refine lv_bipush (v := 119) hx hb dX12_init_450 (by decide) ?_
  refine va_bast hx hb hK hP hD hS 6 1 rfl rfl (k_in (by decide +kernel)) dX12_init_452 (fun H locs hP hD hS => ?_)
  refine k_con (P := fun (z : Nat → Int32) => va_P D vwCl [x0, x1, x2, x3, x4, x5, (q, .inl (K 1, 146, .inl z))] H ∧ va_D A [x0, x1, x2, x3, x4, x5, (q, .inl (K 1, 146, .inl z))] ∧ wOK 68 z) (upd w66 (67 : Int32).toNatClampNeg (vp_nar .byte 119)) ⟨hP, hD, wOK_s hW (by decide +kernel) (by decide +kernel)⟩ (fun w67 hPD => ?_)
  have hP := hPD.1
  have hD := hPD.2.1
  have hW := hPD.2.2
  refine lv_dup hx hb dX12_init_453 rfl ?_
  refine lv_bipush (v := 68) hx hb dX12_init_454 (by decide) ?_
  refine lv_bipush (v := 105) hx hb dX12_init_456 (by decide) ?_
  refine va_bast hx hb hK hP hD hS 6 1 rfl rfl (k_in (by decide +kernel)) dX12_init_458 (fun H locs hP hD hS => ?_)
  refine k_con (P := fun (z : Nat → Int32) => va_P D vwCl [x0, x1, x2, x3, x4, x5, (q, .inl (K 1, 146, .inl z))] H ∧ va_D A [x0, x1, x2, x3, x4, x5, (q, .inl (K 1, 146, .inl z))] ∧ wOK 69 z) (upd w67 (68 : Int32).toNatClampNeg (vp_nar .byte 105)) ⟨hP, hD, wOK_s hW (by decide +kernel) (by decide +kernel)⟩ (fun w68 hPD => ?_)
  have hP := hPD.1
  have hD := hPD.2.1
  have hW := hPD.2.2
  refine lv_dup hx hb dX12_init_459 rfl ?_
  refine lv_bipush (v := 69) hx hb dX12_init_460 (by decide) ?_
  refine lv_bipush (v := 116) hx hb dX12_init_462 (by decide) ?_
  refine va_bast hx hb hK hP hD hS 6 1 rfl rfl (k_in (by decide +kernel)) dX12_init_464 (fun H locs hP hD hS => ?_)
  refine k_con (P := fun (z : Nat → Int32) => va_P D vwCl [x0, x1, x2, x3, x4, x5, (q, .inl (K 1, 146, .inl z))] H ∧ va_D A [x0, x1, x2, x3, x4, x5, (q, .inl (K 1, 146, .inl z))] ∧ wOK 70 z) (upd w68 (69 : Int32).toNatClampNeg (vp_nar .byte 116)) ⟨hP, hD, wOK_s hW (by decide +kernel) (by decide +kernel)⟩ (fun w69 hPD => ?_)
  have hP := hPD.1
  have hD := hPD.2.1
  have hW := hPD.2.2
  refine lv_dup hx hb dX12_init_465 rfl ?_
  refine lv_bipush (v := 70) hx hb dX12_init_466 (by decide) ?_
  refine lv_bipush (v := 104) hx hb dX12_init_468 (by decide) ?_
  refine va_bast hx hb hK hP hD hS 6 1 rfl rfl (k_in (by decide +kernel)) dX12_init_470 (fun H locs hP hD hS => ?_)
  refine k_con (P := fun (z : Nat → Int32) => va_P D vwCl [x0, x1, x2, x3, x4, x5, (q, .inl (K 1, 146, .inl z))] H ∧ va_D A [x0, x1, x2, x3, x4, x5, (q, .inl (K 1, 146, .inl z))] ∧ wOK 71 z) (upd w69 (70 : Int32).toNatClampNeg (vp_nar .byte 104)) ⟨hP, hD, wOK_s hW (by decide +kernel) (by decide +kernel)⟩ (fun w70 hPD => ?_)
  have hP := hPD.1
  have hD := hPD.2.1
  have hW := hPD.2.2
  refine lv_dup hx hb dX12_init_471 rfl ?_
  refine lv_bipush (v := 71) hx hb dX12_init_472 (by decide) ?_
  refine lv_bipush (v := 32) hx hb dX12_init_474 (by decide) ?_
  refine va_bast hx hb hK hP hD hS 6 1 rfl rfl (k_in (by decide +kernel)) dX12_init_476 (fun H locs hP hD hS => ?_)
  refine k_con (P := fun (z : Nat → Int32) => va_P D vwCl [x0, x1, x2, x3, x4, x5, (q, .inl (K 1, 146, .inl z))] H ∧ va_D A [x0, x1, x2, x3, x4, x5, (q, .inl (K 1, 146, .inl z))] ∧ wOK 72 z) (upd w70 (71 : Int32).toNatClampNeg (vp_nar .byte 32)) ⟨hP, hD, wOK_s hW (by decide +kernel) (by decide +kernel)⟩ (fun w71 hPD => ?_)
  have hP := hPD.1
  have hD := hPD.2.1
  have hW := hPD.2.2
  refine lv_dup hx hb dX12_init_477 rfl ?_
  refine lv_bipush (v := 72) hx hb dX12_init_478 (by decide) ?_
  refine lv_bipush (v := 109) hx hb dX12_init_480 (by decide) ?_
  refine va_bast hx hb hK hP hD hS 6 1 rfl rfl (k_in (by decide +kernel)) dX12_init_482 (fun H locs hP hD hS => ?_)
  refine k_con (P := fun (z : Nat → Int32) => va_P D vwCl [x0, x1, x2, x3, x4, x5, (q, .inl (K 1, 146, .inl z))] H ∧ va_D A [x0, x1, x2, x3, x4, x5, (q, .inl (K 1, 146, .inl z))] ∧ wOK 73 z) (upd w71 (72 : Int32).toNatClampNeg (vp_nar .byte 109)) ⟨hP, hD, wOK_s hW (by decide +kernel) (by decide +kernel)⟩ (fun w72 hPD => ?_)
  have hP := hPD.1
  have hD := hPD.2.1
  have hW := hPD.2.2
  refine lv_dup hx hb dX12_init_483 rfl ?_
  refine lv_bipush (v := 73) hx hb dX12_init_484 (by decide) ?_
  refine lv_bipush (v := 111) hx hb dX12_init_486 (by decide) ?_
  refine va_bast hx hb hK hP hD hS 6 1 rfl rfl (k_in (by decide +kernel)) dX12_init_488 (fun H locs hP hD hS => ?_)
  refine k_con (P := fun (z : Nat → Int32) => va_P D vwCl [x0, x1, x2, x3, x4, x5, (q, .inl (K 1, 146, .inl z))] H ∧ va_D A [x0, x1, x2, x3, x4, x5, (q, .inl (K 1, 146, .inl z))] ∧ wOK 74 z) (upd w72 (73 : Int32).toNatClampNeg (vp_nar .byte 111)) ⟨hP, hD, wOK_s hW (by decide +kernel) (by decide +kernel)⟩ (fun w73 hPD => ?_)
  have hP := hPD.1
  have hD := hPD.2.1
  have hW := hPD.2.2
  exact kk _ _ _ hP hD hS hW
set_option maxHeartbeats 4000000 in
set_option maxRecDepth 100000 in
theorem c_iw3 {D : va_G} {K : Nat → ClassId} {p : Program} {e : Env} {s : State} {m : MethodId} {below : List Frame} {meth : Method} {c : Code} {A : Nat → Prop} (l : Launch) (hx : p.tables.exec = Jvm.exec) (hb : c.code = cX12_init) (hK : va_K D vwCl (tysK K) s) {x0 x1 x2 x3 x4 x5 : Nat × va_E} {q o : Nat} {rm : Room} {args : Array Value} {cc ss : Nat} {Q : State → Prop} {ls : Array Slot} {w : Nat → Int32} {H : Heap} {locs : List Loc} (hP : va_P D vwCl [x0, x1, x2, x3, x4, x5, (q, .inl (K 1, 146, .inl w))] H) (hD : va_D A [x0, x1, x2, x3, x4, x5, (q, .inl (K 1, 146, .inl w))]) (hS : va_S A s.heap H locs) (hW : wOK 74 w) (kk : ∀ (w : Nat → Int32) (H : Heap) (locs : List Loc), va_P D vwCl [x0, x1, x2, x3, x4, x5, (q, .inl (K 1, 146, .inl w))] H → va_D A [x0, x1, x2, x3, x4, x5, (q, .inl (K 1, 146, .inl w))] → va_S A s.heap H locs → wOK 110 w → W p l e rm s m args below meth c H locs cc ss Q (F0 m 705 ls [.ref q, .ref o])) : W p l e rm s m args below meth c H locs cc ss Q (F0 m 489 ls [.ref q, .ref o]) := by
  refine lv_dup hx hb dX12_init_489 rfl ?_
  refine lv_bipush (v := 74) hx hb dX12_init_490 (by decide) ?_
  refine lv_bipush (v := 111) hx hb dX12_init_492 (by decide) ?_
  refine va_bast hx hb hK hP hD hS 6 1 rfl rfl (k_in (by decide +kernel)) dX12_init_494 (fun H locs hP hD hS => ?_)
  refine k_con (P := fun (z : Nat → Int32) => va_P D vwCl [x0, x1, x2, x3, x4, x5, (q, .inl (K 1, 146, .inl z))] H ∧ va_D A [x0, x1, x2, x3, x4, x5, (q, .inl (K 1, 146, .inl z))] ∧ wOK 75 z) (upd w (74 : Int32).toNatClampNeg (vp_nar .byte 111)) ⟨hP, hD, wOK_s hW (by decide +kernel) (by decide +kernel)⟩ (fun w74 hPD => ?_)
  have hP := hPD.1
  have hD := hPD.2.1
  have hW := hPD.2.2
  refine lv_dup hx hb dX12_init_495 rfl ?_
  refine lv_bipush (v := 75) hx hb dX12_init_496 (by decide) ?_
  refine lv_bipush (v := 100) hx hb dX12_init_498 (by decide) ?_
  refine va_bast hx hb hK hP hD hS 6 1 rfl rfl (k_in (by decide +kernel)) dX12_init_500 (fun H locs hP hD hS => ?_)
  refine k_con (P := fun (z : Nat → Int32) => va_P D vwCl [x0, x1, x2, x3, x4, x5, (q, .inl (K 1, 146, .inl z))] H ∧ va_D A [x0, x1, x2, x3, x4, x5, (q, .inl (K 1, 146, .inl z))] ∧ wOK 76 z) (upd w74 (75 : Int32).toNatClampNeg (vp_nar .byte 100)) ⟨hP, hD, wOK_s hW (by decide +kernel) (by decide +kernel)⟩ (fun w75 hPD => ?_)
  have hP := hPD.1
  have hD := hPD.2.1
  have hW := hPD.2.2
  refine lv_dup hx hb dX12_init_501 rfl ?_
  refine lv_bipush (v := 76) hx hb dX12_init_502 (by decide) ?_
  refine lv_bipush (v := 32) hx hb dX12_init_504 (by decide) ?_
  refine va_bast hx hb hK hP hD hS 6 1 rfl rfl (k_in (by decide +kernel)) dX12_init_506 (fun H locs hP hD hS => ?_)
  refine k_con (P := fun (z : Nat → Int32) => va_P D vwCl [x0, x1, x2, x3, x4, x5, (q, .inl (K 1, 146, .inl z))] H ∧ va_D A [x0, x1, x2, x3, x4, x5, (q, .inl (K 1, 146, .inl z))] ∧ wOK 77 z) (upd w75 (76 : Int32).toNatClampNeg (vp_nar .byte 32)) ⟨hP, hD, wOK_s hW (by decide +kernel) (by decide +kernel)⟩ (fun w76 hPD => ?_)
  have hP := hPD.1
  have hD := hPD.2.1
  have hW := hPD.2.2
  refine lv_dup hx hb dX12_init_507 rfl ?_
  refine lv_bipush (v := 77) hx hb dX12_init_508 (by decide) ?_
  refine lv_bipush (v := 108) hx hb dX12_init_510 (by decide) ?_
  refine va_bast hx hb hK hP hD hS 6 1 rfl rfl (k_in (by decide +kernel)) dX12_init_512 (fun H locs hP hD hS => ?_)
  refine k_con (P := fun (z : Nat → Int32) => va_P D vwCl [x0, x1, x2, x3, x4, x5, (q, .inl (K 1, 146, .inl z))] H ∧ va_D A [x0, x1, x2, x3, x4, x5, (q, .inl (K 1, 146, .inl z))] ∧ wOK 78 z) (upd w76 (77 : Int32).toNatClampNeg (vp_nar .byte 108)) ⟨hP, hD, wOK_s hW (by decide +kernel) (by decide +kernel)⟩ (fun w77 hPD => ?_)
  have hP := hPD.1
  have hD := hPD.2.1
  have hW := hPD.2.2
  refine lv_dup hx hb dX12_init_513 rfl ?_
  refine lv_bipush (v := 78) hx hb dX12_init_514 (by decide) ?_
  refine lv_bipush (v := 101) hx hb dX12_init_516 (by decide) ?_
  refine va_bast hx hb hK hP hD hS 6 1 rfl rfl (k_in (by decide +kernel)) dX12_init_518 (fun H locs hP hD hS => ?_)
  refine k_con (P := fun (z : Nat → Int32) => va_P D vwCl [x0, x1, x2, x3, x4, x5, (q, .inl (K 1, 146, .inl z))] H ∧ va_D A [x0, x1, x2, x3, x4, x5, (q, .inl (K 1, 146, .inl z))] ∧ wOK 79 z) (upd w77 (78 : Int32).toNatClampNeg (vp_nar .byte 101)) ⟨hP, hD, wOK_s hW (by decide +kernel) (by decide +kernel)⟩ (fun w78 hPD => ?_)
  have hP := hPD.1
  have hD := hPD.2.1
  have hW := hPD.2.2
  refine lv_dup hx hb dX12_init_519 rfl ?_
  refine lv_bipush (v := 79) hx hb dX12_init_520 (by decide) ?_
  refine lv_bipush (v := 102) hx hb dX12_init_522 (by decide) ?_
  refine va_bast hx hb hK hP hD hS 6 1 rfl rfl (k_in (by decide +kernel)) dX12_init_524 (fun H locs hP hD hS => ?_)
  refine k_con (P := fun (z : Nat → Int32) => va_P D vwCl [x0, x1, x2, x3, x4, x5, (q, .inl (K 1, 146, .inl z))] H ∧ va_D A [x0, x1, x2, x3, x4, x5, (q, .inl (K 1, 146, .inl z))] ∧ wOK 80 z) (upd w78 (79 : Int32).toNatClampNeg (vp_nar .byte 102)) ⟨hP, hD, wOK_s hW (by decide +kernel) (by decide +kernel)⟩ (fun w79 hPD => ?_)
  have hP := hPD.1
  have hD := hPD.2.1
  have hW := hPD.2.2
  refine lv_dup hx hb dX12_init_525 rfl ?_
  refine lv_bipush (v := 80) hx hb dX12_init_526 (by decide) ?_
  refine lv_bipush (v := 116) hx hb dX12_init_528 (by decide) ?_
  refine va_bast hx hb hK hP hD hS 6 1 rfl rfl (k_in (by decide +kernel)) dX12_init_530 (fun H locs hP hD hS => ?_)
  refine k_con (P := fun (z : Nat → Int32) => va_P D vwCl [x0, x1, x2, x3, x4, x5, (q, .inl (K 1, 146, .inl z))] H ∧ va_D A [x0, x1, x2, x3, x4, x5, (q, .inl (K 1, 146, .inl z))] ∧ wOK 81 z) (upd w79 (80 : Int32).toNatClampNeg (vp_nar .byte 116)) ⟨hP, hD, wOK_s hW (by decide +kernel) (by decide +kernel)⟩ (fun w80 hPD => ?_)
  have hP := hPD.1
  have hD := hPD.2.1
  have hW := hPD.2.2
  refine lv_dup hx hb dX12_init_531 rfl ?_
  refine lv_bipush (v := 81) hx hb dX12_init_532 (by decide) ?_
  refine lv_bipush (v := 32) hx hb dX12_init_534 (by decide) ?_
  refine va_bast hx hb hK hP hD hS 6 1 rfl rfl (k_in (by decide +kernel)) dX12_init_536 (fun H locs hP hD hS => ?_)
  refine k_con (P := fun (z : Nat → Int32) => va_P D vwCl [x0, x1, x2, x3, x4, x5, (q, .inl (K 1, 146, .inl z))] H ∧ va_D A [x0, x1, x2, x3, x4, x5, (q, .inl (K 1, 146, .inl z))] ∧ wOK 82 z) (upd w80 (81 : Int32).toNatClampNeg (vp_nar .byte 32)) ⟨hP, hD, wOK_s hW (by decide +kernel) (by decide +kernel)⟩ (fun w81 hPD => ?_)
  have hP := hPD.1
  have hD := hPD.2.1
  have hW := hPD.2.2
  refine lv_dup hx hb dX12_init_537 rfl ?_
  refine lv_bipush (v := 82) hx hb dX12_init_538 (by decide) ?_
  refine lv_bipush (v := 116) hx hb dX12_init_540 (by decide) ?_
  refine va_bast hx hb hK hP hD hS 6 1 rfl rfl (k_in (by decide +kernel)) dX12_init_542 (fun H locs hP hD hS => ?_)
  refine k_con (P := fun (z : Nat → Int32) => va_P D vwCl [x0, x1, x2, x3, x4, x5, (q, .inl (K 1, 146, .inl z))] H ∧ va_D A [x0, x1, x2, x3, x4, x5, (q, .inl (K 1, 146, .inl z))] ∧ wOK 83 z) (upd w81 (82 : Int32).toNatClampNeg (vp_nar .byte 116)) ⟨hP, hD, wOK_s hW (by decide +kernel) (by decide +kernel)⟩ (fun w82 hPD => ?_)
  have hP := hPD.1
  have hD := hPD.2.1
  have hW := hPD.2.2
  refine lv_dup hx hb dX12_init_543 rfl ?_
  refine lv_bipush (v := 83) hx hb dX12_init_544 (by decide) ?_
  refine lv_bipush (v := 105) hx hb dX12_init_546 (by decide) ?_
  refine va_bast hx hb hK hP hD hS 6 1 rfl rfl (k_in (by decide +kernel)) dX12_init_548 (fun H locs hP hD hS => ?_)
  refine k_con (P := fun (z : Nat → Int32) => va_P D vwCl [x0, x1, x2, x3, x4, x5, (q, .inl (K 1, 146, .inl z))] H ∧ va_D A [x0, x1, x2, x3, x4, x5, (q, .inl (K 1, 146, .inl z))] ∧ wOK 84 z) (upd w82 (83 : Int32).toNatClampNeg (vp_nar .byte 105)) ⟨hP, hD, wOK_s hW (by decide +kernel) (by decide +kernel)⟩ (fun w83 hPD => ?_)
  have hP := hPD.1
  have hD := hPD.2.1
  have hW := hPD.2.2
  refine lv_dup hx hb dX12_init_549 rfl ?_
  refine lv_bipush (v := 84) hx hb dX12_init_550 (by decide) ?_
  refine lv_bipush (v := 114) hx hb dX12_init_552 (by decide) ?_
  refine va_bast hx hb hK hP hD hS 6 1 rfl rfl (k_in (by decide +kernel)) dX12_init_554 (fun H locs hP hD hS => ?_)
  refine k_con (P := fun (z : Nat → Int32) => va_P D vwCl [x0, x1, x2, x3, x4, x5, (q, .inl (K 1, 146, .inl z))] H ∧ va_D A [x0, x1, x2, x3, x4, x5, (q, .inl (K 1, 146, .inl z))] ∧ wOK 85 z) (upd w83 (84 : Int32).toNatClampNeg (vp_nar .byte 114)) ⟨hP, hD, wOK_s hW (by decide +kernel) (by decide +kernel)⟩ (fun w84 hPD => ?_)
  have hP := hPD.1
  have hD := hPD.2.1
  have hW := hPD.2.2
  refine lv_dup hx hb dX12_init_555 rfl ?_
  refine lv_bipush (v := 85) hx hb dX12_init_556 (by decide) ?_
  refine lv_bipush (v := 101) hx hb dX12_init_558 (by decide) ?_
  refine va_bast hx hb hK hP hD hS 6 1 rfl rfl (k_in (by decide +kernel)) dX12_init_560 (fun H locs hP hD hS => ?_)
  refine k_con (P := fun (z : Nat → Int32) => va_P D vwCl [x0, x1, x2, x3, x4, x5, (q, .inl (K 1, 146, .inl z))] H ∧ va_D A [x0, x1, x2, x3, x4, x5, (q, .inl (K 1, 146, .inl z))] ∧ wOK 86 z) (upd w84 (85 : Int32).toNatClampNeg (vp_nar .byte 101)) ⟨hP, hD, wOK_s hW (by decide +kernel) (by decide +kernel)⟩ (fun w85 hPD => ?_)
  have hP := hPD.1
  have hD := hPD.2.1
  have hW := hPD.2.2
  refine lv_dup hx hb dX12_init_561 rfl ?_
  refine lv_bipush (v := 86) hx hb dX12_init_562 (by decide) ?_
  refine lv_bipush (v := 100) hx hb dX12_init_564 (by decide) ?_
  refine va_bast hx hb hK hP hD hS 6 1 rfl rfl (k_in (by decide +kernel)) dX12_init_566 (fun H locs hP hD hS => ?_)
  refine k_con (P := fun (z : Nat → Int32) => va_P D vwCl [x0, x1, x2, x3, x4, x5, (q, .inl (K 1, 146, .inl z))] H ∧ va_D A [x0, x1, x2, x3, x4, x5, (q, .inl (K 1, 146, .inl z))] ∧ wOK 87 z) (upd w85 (86 : Int32).toNatClampNeg (vp_nar .byte 100)) ⟨hP, hD, wOK_s hW (by decide +kernel) (by decide +kernel)⟩ (fun w86 hPD => ?_)
  have hP := hPD.1
  have hD := hPD.2.1
  have hW := hPD.2.2
  refine lv_dup hx hb dX12_init_567 rfl ?_
  refine lv_bipush (v := 87) hx hb dX12_init_568 (by decide) ?_
  refine lv_bipush (v := 32) hx hb dX12_init_570 (by decide) ?_
  refine va_bast hx hb hK hP hD hS 6 1 rfl rfl (k_in (by decide +kernel)) dX12_init_572 (fun H locs hP hD hS => ?_)
  refine k_con (P := fun (z : Nat → Int32) => va_P D vwCl [x0, x1, x2, x3, x4, x5, (q, .inl (K 1, 146, .inl z))] H ∧ va_D A [x0, x1, x2, x3, x4, x5, (q, .inl (K 1, 146, .inl z))] ∧ wOK 88 z) (upd w86 (87 : Int32).toNatClampNeg (vp_nar .byte 32)) ⟨hP, hD, wOK_s hW (by decide +kernel) (by decide +kernel)⟩ (fun w87 hPD => ?_)
  have hP := hPD.1
  have hD := hPD.2.1
  have hW := hPD.2.2
  refine lv_dup hx hb dX12_init_573 rfl ?_
  refine lv_bipush (v := 88) hx hb dX12_init_574 (by decide) ?_
  refine lv_bipush (v := 104) hx hb dX12_init_576 (by decide) ?_
  refine va_bast hx hb hK hP hD hS 6 1 rfl rfl (k_in (by decide +kernel)) dX12_init_578 (fun H locs hP hD hS => ?_)
  refine k_con (P := fun (z : Nat → Int32) => va_P D vwCl [x0, x1, x2, x3, x4, x5, (q, .inl (K 1, 146, .inl z))] H ∧ va_D A [x0, x1, x2, x3, x4, x5, (q, .inl (K 1, 146, .inl z))] ∧ wOK 89 z) (upd w87 (88 : Int32).toNatClampNeg (vp_nar .byte 104)) ⟨hP, hD, wOK_s hW (by decide +kernel) (by decide +kernel)⟩ (fun w88 hPD => ?_)
  have hP := hPD.1
  have hD := hPD.2.1
  have hW := hPD.2.2
  refine lv_dup hx hb dX12_init_579 rfl ?_
  refine lv_bipush (v := 89) hx hb dX12_init_580 (by decide) ?_
  refine lv_bipush (v := 111) hx hb dX12_init_582 (by decide) ?_
  refine va_bast hx hb hK hP hD hS 6 1 rfl rfl (k_in (by decide +kernel)) dX12_init_584 (fun H locs hP hD hS => ?_)
  refine k_con (P := fun (z : Nat → Int32) => va_P D vwCl [x0, x1, x2, x3, x4, x5, (q, .inl (K 1, 146, .inl z))] H ∧ va_D A [x0, x1, x2, x3, x4, x5, (q, .inl (K 1, 146, .inl z))] ∧ wOK 90 z) (upd w88 (89 : Int32).toNatClampNeg (vp_nar .byte 111)) ⟨hP, hD, wOK_s hW (by decide +kernel) (by decide +kernel)⟩ (fun w89 hPD => ?_)
  have hP := hPD.1
  have hD := hPD.2.1
  have hW := hPD.2.2
  refine lv_dup hx hb dX12_init_585 rfl ?_
  refine lv_bipush (v := 90) hx hb dX12_init_586 (by decide) ?_
  refine lv_bipush (v := 117) hx hb dX12_init_588 (by decide) ?_
  refine va_bast hx hb hK hP hD hS 6 1 rfl rfl (k_in (by decide +kernel)) dX12_init_590 (fun H locs hP hD hS => ?_)
  refine k_con (P := fun (z : Nat → Int32) => va_P D vwCl [x0, x1, x2, x3, x4, x5, (q, .inl (K 1, 146, .inl z))] H ∧ va_D A [x0, x1, x2, x3, x4, x5, (q, .inl (K 1, 146, .inl z))] ∧ wOK 91 z) (upd w89 (90 : Int32).toNatClampNeg (vp_nar .byte 117)) ⟨hP, hD, wOK_s hW (by decide +kernel) (by decide +kernel)⟩ (fun w90 hPD => ?_)
  have hP := hPD.1
  have hD := hPD.2.1
  have hW := hPD.2.2
  refine lv_dup hx hb dX12_init_591 rfl ?_
  refine lv_bipush (v := 91) hx hb dX12_init_592 (by decide) ?_
  refine lv_bipush (v := 114) hx hb dX12_init_594 (by decide) ?_
  refine va_bast hx hb hK hP hD hS 6 1 rfl rfl (k_in (by decide +kernel)) dX12_init_596 (fun H locs hP hD hS => ?_)
  refine k_con (P := fun (z : Nat → Int32) => va_P D vwCl [x0, x1, x2, x3, x4, x5, (q, .inl (K 1, 146, .inl z))] H ∧ va_D A [x0, x1, x2, x3, x4, x5, (q, .inl (K 1, 146, .inl z))] ∧ wOK 92 z) (upd w90 (91 : Int32).toNatClampNeg (vp_nar .byte 114)) ⟨hP, hD, wOK_s hW (by decide +kernel) (by decide +kernel)⟩ (fun w91 hPD => ?_)
  have hP := hPD.1
  have hD := hPD.2.1
  have hW := hPD.2.2
  refine lv_dup hx hb dX12_init_597 rfl ?_
  refine lv_bipush (v := 92) hx hb dX12_init_598 (by decide) ?_
  refine lv_bipush (v := 32) hx hb dX12_init_600 (by decide) ?_
  refine va_bast hx hb hK hP hD hS 6 1 rfl rfl (k_in (by decide +kernel)) dX12_init_602 (fun H locs hP hD hS => ?_)
  refine k_con (P := fun (z : Nat → Int32) => va_P D vwCl [x0, x1, x2, x3, x4, x5, (q, .inl (K 1, 146, .inl z))] H ∧ va_D A [x0, x1, x2, x3, x4, x5, (q, .inl (K 1, 146, .inl z))] ∧ wOK 93 z) (upd w91 (92 : Int32).toNatClampNeg (vp_nar .byte 32)) ⟨hP, hD, wOK_s hW (by decide +kernel) (by decide +kernel)⟩ (fun w92 hPD => ?_)
  have hP := hPD.1
  have hD := hPD.2.1
  have hW := hPD.2.2
  refine lv_dup hx hb dX12_init_603 rfl ?_
  refine lv_bipush (v := 93) hx hb dX12_init_604 (by decide) ?_
  refine lv_bipush (v := 100) hx hb dX12_init_606 (by decide) ?_
  refine va_bast hx hb hK hP hD hS 6 1 rfl rfl (k_in (by decide +kernel)) dX12_init_608 (fun H locs hP hD hS => ?_)
  refine k_con (P := fun (z : Nat → Int32) => va_P D vwCl [x0, x1, x2, x3, x4, x5, (q, .inl (K 1, 146, .inl z))] H ∧ va_D A [x0, x1, x2, x3, x4, x5, (q, .inl (K 1, 146, .inl z))] ∧ wOK 94 z) (upd w92 (93 : Int32).toNatClampNeg (vp_nar .byte 100)) ⟨hP, hD, wOK_s hW (by decide +kernel) (by decide +kernel)⟩ (fun w93 hPD => ?_)
  have hP := hPD.1
  have hD := hPD.2.1
  have hW := hPD.2.2
  refine lv_dup hx hb dX12_init_609 rfl ?_
  refine lv_bipush (v := 94) hx hb dX12_init_610 (by decide) ?_
  refine lv_bipush (v := 111) hx hb dX12_init_612 (by decide) ?_
  refine va_bast hx hb hK hP hD hS 6 1 rfl rfl (k_in (by decide +kernel)) dX12_init_614 (fun H locs hP hD hS => ?_)
  refine k_con (P := fun (z : Nat → Int32) => va_P D vwCl [x0, x1, x2, x3, x4, x5, (q, .inl (K 1, 146, .inl z))] H ∧ va_D A [x0, x1, x2, x3, x4, x5, (q, .inl (K 1, 146, .inl z))] ∧ wOK 95 z) (upd w93 (94 : Int32).toNatClampNeg (vp_nar .byte 111)) ⟨hP, hD, wOK_s hW (by decide +kernel) (by decide +kernel)⟩ (fun w94 hPD => ?_)
  have hP := hPD.1
  have hD := hPD.2.1
  have hW := hPD.2.2
  refine lv_dup hx hb dX12_init_615 rfl ?_
  refine lv_bipush (v := 95) hx hb dX12_init_616 (by decide) ?_
  refine lv_bipush (v := 110) hx hb dX12_init_618 (by decide) ?_
  refine va_bast hx hb hK hP hD hS 6 1 rfl rfl (k_in (by decide +kernel)) dX12_init_620 (fun H locs hP hD hS => ?_)
  refine k_con (P := fun (z : Nat → Int32) => va_P D vwCl [x0, x1, x2, x3, x4, x5, (q, .inl (K 1, 146, .inl z))] H ∧ va_D A [x0, x1, x2, x3, x4, x5, (q, .inl (K 1, 146, .inl z))] ∧ wOK 96 z) (upd w94 (95 : Int32).toNatClampNeg (vp_nar .byte 110)) ⟨hP, hD, wOK_s hW (by decide +kernel) (by decide +kernel)⟩ (fun w95 hPD => ?_)
  have hP := hPD.1
  have hD := hPD.2.1
  have hW := hPD.2.2
  refine lv_dup hx hb dX12_init_621 rfl ?_
  refine lv_bipush (v := 96) hx hb dX12_init_622 (by decide) ?_
  refine lv_bipush (v := 101) hx hb dX12_init_624 (by decide) ?_
  refine va_bast hx hb hK hP hD hS 6 1 rfl rfl (k_in (by decide +kernel)) dX12_init_626 (fun H locs hP hD hS => ?_)
  refine k_con (P := fun (z : Nat → Int32) => va_P D vwCl [x0, x1, x2, x3, x4, x5, (q, .inl (K 1, 146, .inl z))] H ∧ va_D A [x0, x1, x2, x3, x4, x5, (q, .inl (K 1, 146, .inl z))] ∧ wOK 97 z) (upd w95 (96 : Int32).toNatClampNeg (vp_nar .byte 101)) ⟨hP, hD, wOK_s hW (by decide +kernel) (by decide +kernel)⟩ (fun w96 hPD => ?_)
  have hP := hPD.1
  have hD := hPD.2.1
  have hW := hPD.2.2
  refine lv_dup hx hb dX12_init_627 rfl ?_
  refine lv_bipush (v := 97) hx hb dX12_init_628 (by decide) ?_
  refine lv_bipush (v := 32) hx hb dX12_init_630 (by decide) ?_
  refine va_bast hx hb hK hP hD hS 6 1 rfl rfl (k_in (by decide +kernel)) dX12_init_632 (fun H locs hP hD hS => ?_)
  refine k_con (P := fun (z : Nat → Int32) => va_P D vwCl [x0, x1, x2, x3, x4, x5, (q, .inl (K 1, 146, .inl z))] H ∧ va_D A [x0, x1, x2, x3, x4, x5, (q, .inl (K 1, 146, .inl z))] ∧ wOK 98 z) (upd w96 (97 : Int32).toNatClampNeg (vp_nar .byte 32)) ⟨hP, hD, wOK_s hW (by decide +kernel) (by decide +kernel)⟩ (fun w97 hPD => ?_)
  have hP := hPD.1
  have hD := hPD.2.1
  have hW := hPD.2.2
  refine lv_dup hx hb dX12_init_633 rfl ?_
  refine lv_bipush (v := 98) hx hb dX12_init_634 (by decide) ?_
  refine lv_bipush (v := 115) hx hb dX12_init_636 (by decide) ?_
  refine va_bast hx hb hK hP hD hS 6 1 rfl rfl (k_in (by decide +kernel)) dX12_init_638 (fun H locs hP hD hS => ?_)
  refine k_con (P := fun (z : Nat → Int32) => va_P D vwCl [x0, x1, x2, x3, x4, x5, (q, .inl (K 1, 146, .inl z))] H ∧ va_D A [x0, x1, x2, x3, x4, x5, (q, .inl (K 1, 146, .inl z))] ∧ wOK 99 z) (upd w97 (98 : Int32).toNatClampNeg (vp_nar .byte 115)) ⟨hP, hD, wOK_s hW (by decide +kernel) (by decide +kernel)⟩ (fun w98 hPD => ?_)
  have hP := hPD.1
  have hD := hPD.2.1
  have hW := hPD.2.2
  refine lv_dup hx hb dX12_init_639 rfl ?_
  refine lv_bipush (v := 99) hx hb dX12_init_640 (by decide) ?_
  refine lv_bipush (v := 116) hx hb dX12_init_642 (by decide) ?_
  refine va_bast hx hb hK hP hD hS 6 1 rfl rfl (k_in (by decide +kernel)) dX12_init_644 (fun H locs hP hD hS => ?_)
  refine k_con (P := fun (z : Nat → Int32) => va_P D vwCl [x0, x1, x2, x3, x4, x5, (q, .inl (K 1, 146, .inl z))] H ∧ va_D A [x0, x1, x2, x3, x4, x5, (q, .inl (K 1, 146, .inl z))] ∧ wOK 100 z) (upd w98 (99 : Int32).toNatClampNeg (vp_nar .byte 116)) ⟨hP, hD, wOK_s hW (by decide +kernel) (by decide +kernel)⟩ (fun w99 hPD => ?_)
  have hP := hPD.1
  have hD := hPD.2.1
  have hW := hPD.2.2
  refine lv_dup hx hb dX12_init_645 rfl ?_
  refine lv_bipush (v := 100) hx hb dX12_init_646 (by decide) ?_
  refine lv_bipush (v := 111) hx hb dX12_init_648 (by decide) ?_
  refine va_bast hx hb hK hP hD hS 6 1 rfl rfl (k_in (by decide +kernel)) dX12_init_650 (fun H locs hP hD hS => ?_)
  refine k_con (P := fun (z : Nat → Int32) => va_P D vwCl [x0, x1, x2, x3, x4, x5, (q, .inl (K 1, 146, .inl z))] H ∧ va_D A [x0, x1, x2, x3, x4, x5, (q, .inl (K 1, 146, .inl z))] ∧ wOK 101 z) (upd w99 (100 : Int32).toNatClampNeg (vp_nar .byte 111)) ⟨hP, hD, wOK_s hW (by decide +kernel) (by decide +kernel)⟩ (fun w100 hPD => ?_)
  have hP := hPD.1
  have hD := hPD.2.1
  have hW := hPD.2.2
  refine lv_dup hx hb dX12_init_651 rfl ?_
  refine lv_bipush (v := 101) hx hb dX12_init_652 (by decide) ?_
  refine lv_bipush (v := 111) hx hb dX12_init_654 (by decide) ?_
  refine va_bast hx hb hK hP hD hS 6 1 rfl rfl (k_in (by decide +kernel)) dX12_init_656 (fun H locs hP hD hS => ?_)
  refine k_con (P := fun (z : Nat → Int32) => va_P D vwCl [x0, x1, x2, x3, x4, x5, (q, .inl (K 1, 146, .inl z))] H ∧ va_D A [x0, x1, x2, x3, x4, x5, (q, .inl (K 1, 146, .inl z))] ∧ wOK 102 z) (upd w100 (101 : Int32).toNatClampNeg (vp_nar .byte 111)) ⟨hP, hD, wOK_s hW (by decide +kernel) (by decide +kernel)⟩ (fun w101 hPD => ?_)
  have hP := hPD.1
  have hD := hPD.2.1
  have hW := hPD.2.2
  refine lv_dup hx hb dX12_init_657 rfl ?_
  refine lv_bipush (v := 102) hx hb dX12_init_658 (by decide) ?_
  refine lv_bipush (v := 100) hx hb dX12_init_660 (by decide) ?_
  refine va_bast hx hb hK hP hD hS 6 1 rfl rfl (k_in (by decide +kernel)) dX12_init_662 (fun H locs hP hD hS => ?_)
  refine k_con (P := fun (z : Nat → Int32) => va_P D vwCl [x0, x1, x2, x3, x4, x5, (q, .inl (K 1, 146, .inl z))] H ∧ va_D A [x0, x1, x2, x3, x4, x5, (q, .inl (K 1, 146, .inl z))] ∧ wOK 103 z) (upd w101 (102 : Int32).toNatClampNeg (vp_nar .byte 100)) ⟨hP, hD, wOK_s hW (by decide +kernel) (by decide +kernel)⟩ (fun w102 hPD => ?_)
  have hP := hPD.1
  have hD := hPD.2.1
  have hW := hPD.2.2
  refine lv_dup hx hb dX12_init_663 rfl ?_
  refine lv_bipush (v := 103) hx hb dX12_init_664 (by decide) ?_
  refine lv_bipush (v := 32) hx hb dX12_init_666 (by decide) ?_
  refine va_bast hx hb hK hP hD hS 6 1 rfl rfl (k_in (by decide +kernel)) dX12_init_668 (fun H locs hP hD hS => ?_)
  refine k_con (P := fun (z : Nat → Int32) => va_P D vwCl [x0, x1, x2, x3, x4, x5, (q, .inl (K 1, 146, .inl z))] H ∧ va_D A [x0, x1, x2, x3, x4, x5, (q, .inl (K 1, 146, .inl z))] ∧ wOK 104 z) (upd w102 (103 : Int32).toNatClampNeg (vp_nar .byte 32)) ⟨hP, hD, wOK_s hW (by decide +kernel) (by decide +kernel)⟩ (fun w103 hPD => ?_)
  have hP := hPD.1
  have hD := hPD.2.1
  have hW := hPD.2.2
  refine lv_dup hx hb dX12_init_669 rfl ?_
  refine lv_bipush (v := 104) hx hb dX12_init_670 (by decide) ?_
  refine lv_bipush (v := 115) hx hb dX12_init_672 (by decide) ?_
  refine va_bast hx hb hK hP hD hS 6 1 rfl rfl (k_in (by decide +kernel)) dX12_init_674 (fun H locs hP hD hS => ?_)
  refine k_con (P := fun (z : Nat → Int32) => va_P D vwCl [x0, x1, x2, x3, x4, x5, (q, .inl (K 1, 146, .inl z))] H ∧ va_D A [x0, x1, x2, x3, x4, x5, (q, .inl (K 1, 146, .inl z))] ∧ wOK 105 z) (upd w103 (104 : Int32).toNatClampNeg (vp_nar .byte 115)) ⟨hP, hD, wOK_s hW (by decide +kernel) (by decide +kernel)⟩ (fun w104 hPD => ?_)
  have hP := hPD.1
  have hD := hPD.2.1
  have hW := hPD.2.2
  refine lv_dup hx hb dX12_init_675 rfl ?_
  refine lv_bipush (v := 105) hx hb dX12_init_676 (by decide) ?_
  refine lv_bipush (v := 116) hx hb dX12_init_678 (by decide) ?_
  refine va_bast hx hb hK hP hD hS 6 1 rfl rfl (k_in (by decide +kernel)) dX12_init_680 (fun H locs hP hD hS => ?_)
  refine k_con (P := fun (z : Nat → Int32) => va_P D vwCl [x0, x1, x2, x3, x4, x5, (q, .inl (K 1, 146, .inl z))] H ∧ va_D A [x0, x1, x2, x3, x4, x5, (q, .inl (K 1, 146, .inl z))] ∧ wOK 106 z) (upd w104 (105 : Int32).toNatClampNeg (vp_nar .byte 116)) ⟨hP, hD, wOK_s hW (by decide +kernel) (by decide +kernel)⟩ (fun w105 hPD => ?_)
  have hP := hPD.1
  have hD := hPD.2.1
  have hW := hPD.2.2
  refine lv_dup hx hb dX12_init_681 rfl ?_
  refine lv_bipush (v := 106) hx hb dX12_init_682 (by decide) ?_
  refine lv_bipush (v := 97) hx hb dX12_init_684 (by decide) ?_
  refine va_bast hx hb hK hP hD hS 6 1 rfl rfl (k_in (by decide +kernel)) dX12_init_686 (fun H locs hP hD hS => ?_)
  refine k_con (P := fun (z : Nat → Int32) => va_P D vwCl [x0, x1, x2, x3, x4, x5, (q, .inl (K 1, 146, .inl z))] H ∧ va_D A [x0, x1, x2, x3, x4, x5, (q, .inl (K 1, 146, .inl z))] ∧ wOK 107 z) (upd w105 (106 : Int32).toNatClampNeg (vp_nar .byte 97)) ⟨hP, hD, wOK_s hW (by decide +kernel) (by decide +kernel)⟩ (fun w106 hPD => ?_)
  have hP := hPD.1
  have hD := hPD.2.1
  have hW := hPD.2.2
  refine lv_dup hx hb dX12_init_687 rfl ?_
  refine lv_bipush (v := 107) hx hb dX12_init_688 (by decide) ?_
  refine lv_bipush (v := 110) hx hb dX12_init_690 (by decide) ?_
  refine va_bast hx hb hK hP hD hS 6 1 rfl rfl (k_in (by decide +kernel)) dX12_init_692 (fun H locs hP hD hS => ?_)
  refine k_con (P := fun (z : Nat → Int32) => va_P D vwCl [x0, x1, x2, x3, x4, x5, (q, .inl (K 1, 146, .inl z))] H ∧ va_D A [x0, x1, x2, x3, x4, x5, (q, .inl (K 1, 146, .inl z))] ∧ wOK 108 z) (upd w106 (107 : Int32).toNatClampNeg (vp_nar .byte 110)) ⟨hP, hD, wOK_s hW (by decide +kernel) (by decide +kernel)⟩ (fun w107 hPD => ?_)
  have hP := hPD.1
  have hD := hPD.2.1
  have hW := hPD.2.2
  refine lv_dup hx hb dX12_init_693 rfl ?_
  refine lv_bipush (v := 108) hx hb dX12_init_694 (by decide) ?_
  refine lv_bipush (v := 100) hx hb dX12_init_696 (by decide) ?_
  refine va_bast hx hb hK hP hD hS 6 1 rfl rfl (k_in (by decide +kernel)) dX12_init_698 (fun H locs hP hD hS => ?_)
  refine k_con (P := fun (z : Nat → Int32) => va_P D vwCl [x0, x1, x2, x3, x4, x5, (q, .inl (K 1, 146, .inl z))] H ∧ va_D A [x0, x1, x2, x3, x4, x5, (q, .inl (K 1, 146, .inl z))] ∧ wOK 109 z) (upd w107 (108 : Int32).toNatClampNeg (vp_nar .byte 100)) ⟨hP, hD, wOK_s hW (by decide +kernel) (by decide +kernel)⟩ (fun w108 hPD => ?_)
  have hP := hPD.1
  have hD := hPD.2.1
  have hW := hPD.2.2
  refine lv_dup hx hb dX12_init_699 rfl ?_
  refine lv_bipush (v := 109) hx hb dX12_init_700 (by decide) ?_
  refine lv_bipush (v := 105) hx hb dX12_init_702 (by decide) ?_
  refine va_bast hx hb hK hP hD hS 6 1 rfl rfl (k_in (by decide +kernel)) dX12_init_704 (fun H locs hP hD hS => ?_)
  refine k_con (P := fun (z : Nat → Int32) => va_P D vwCl [x0, x1, x2, x3, x4, x5, (q, .inl (K 1, 146, .inl z))] H ∧ va_D A [x0, x1, x2, x3, x4, x5, (q, .inl (K 1, 146, .inl z))] ∧ wOK 110 z) (upd w108 (109 : Int32).toNatClampNeg (vp_nar .byte 105)) ⟨hP, hD, wOK_s hW (by decide +kernel) (by decide +kernel)⟩ (fun w109 hPD => ?_)
  have hP := hPD.1
  have hD := hPD.2.1
  have hW := hPD.2.2
  exact kk _ _ _ hP hD hS hW
set_option maxHeartbeats 4000000 in
set_option maxRecDepth 100000 in
theorem c_iw4 {D : va_G} {K : Nat → ClassId} {p : Program} {e : Env} {s : State} {m : MethodId} {below : List Frame} {meth : Method} {c : Code} {A : Nat → Prop} (l : Launch) (hx : p.tables.exec = Jvm.exec) (hb : c.code = cX12_init) (hK : va_K D vwCl (tysK K) s) {x0 x1 x2 x3 x4 x5 : Nat × va_E} {q o : Nat} {rm : Room} {args : Array Value} {cc ss : Nat} {Q : State → Prop} {ls : Array Slot} {w : Nat → Int32} {H : Heap} {locs : List Loc} (hP : va_P D vwCl [x0, x1, x2, x3, x4, x5, (q, .inl (K 1, 146, .inl w))] H) (hD : va_D A [x0, x1, x2, x3, x4, x5, (q, .inl (K 1, 146, .inl w))]) (hS : va_S A s.heap H locs) (hW : wOK 110 w) (kk : ∀ (w : Nat → Int32) (H : Heap) (locs : List Loc), va_P D vwCl [x0, x1, x2, x3, x4, x5, (q, .inl (K 1, 146, .inl w))] H → va_D A [x0, x1, x2, x3, x4, x5, (q, .inl (K 1, 146, .inl w))] → va_S A s.heap H locs → wOK 146 w → W p l e rm s m args below meth c H locs cc ss Q (F0 m 939 ls [.ref q, .ref o])) : W p l e rm s m args below meth c H locs cc ss Q (F0 m 705 ls [.ref q, .ref o]) := by
  refine lv_dup hx hb dX12_init_705 rfl ?_
  refine lv_bipush (v := 110) hx hb dX12_init_706 (by decide) ?_
  refine lv_bipush (v := 110) hx hb dX12_init_708 (by decide) ?_
  refine va_bast hx hb hK hP hD hS 6 1 rfl rfl (k_in (by decide +kernel)) dX12_init_710 (fun H locs hP hD hS => ?_)
  refine k_con (P := fun (z : Nat → Int32) => va_P D vwCl [x0, x1, x2, x3, x4, x5, (q, .inl (K 1, 146, .inl z))] H ∧ va_D A [x0, x1, x2, x3, x4, x5, (q, .inl (K 1, 146, .inl z))] ∧ wOK 111 z) (upd w (110 : Int32).toNatClampNeg (vp_nar .byte 110)) ⟨hP, hD, wOK_s hW (by decide +kernel) (by decide +kernel)⟩ (fun w110 hPD => ?_)
  have hP := hPD.1
  have hD := hPD.2.1
  have hW := hPD.2.2
  refine lv_dup hx hb dX12_init_711 rfl ?_
  refine lv_bipush (v := 111) hx hb dX12_init_712 (by decide) ?_
  refine lv_bipush (v := 103) hx hb dX12_init_714 (by decide) ?_
  refine va_bast hx hb hK hP hD hS 6 1 rfl rfl (k_in (by decide +kernel)) dX12_init_716 (fun H locs hP hD hS => ?_)
  refine k_con (P := fun (z : Nat → Int32) => va_P D vwCl [x0, x1, x2, x3, x4, x5, (q, .inl (K 1, 146, .inl z))] H ∧ va_D A [x0, x1, x2, x3, x4, x5, (q, .inl (K 1, 146, .inl z))] ∧ wOK 112 z) (upd w110 (111 : Int32).toNatClampNeg (vp_nar .byte 103)) ⟨hP, hD, wOK_s hW (by decide +kernel) (by decide +kernel)⟩ (fun w111 hPD => ?_)
  have hP := hPD.1
  have hD := hPD.2.1
  have hW := hPD.2.2
  refine lv_dup hx hb dX12_init_717 rfl ?_
  refine lv_bipush (v := 112) hx hb dX12_init_718 (by decide) ?_
  refine lv_bipush (v := 32) hx hb dX12_init_720 (by decide) ?_
  refine va_bast hx hb hK hP hD hS 6 1 rfl rfl (k_in (by decide +kernel)) dX12_init_722 (fun H locs hP hD hS => ?_)
  refine k_con (P := fun (z : Nat → Int32) => va_P D vwCl [x0, x1, x2, x3, x4, x5, (q, .inl (K 1, 146, .inl z))] H ∧ va_D A [x0, x1, x2, x3, x4, x5, (q, .inl (K 1, 146, .inl z))] ∧ wOK 113 z) (upd w111 (112 : Int32).toNatClampNeg (vp_nar .byte 32)) ⟨hP, hD, wOK_s hW (by decide +kernel) (by decide +kernel)⟩ (fun w112 hPD => ?_)
  have hP := hPD.1
  have hD := hPD.2.1
  have hW := hPD.2.2
  refine lv_dup hx hb dX12_init_723 rfl ?_
  refine lv_bipush (v := 113) hx hb dX12_init_724 (by decide) ?_
  refine lv_bipush (v := 97) hx hb dX12_init_726 (by decide) ?_
  refine va_bast hx hb hK hP hD hS 6 1 rfl rfl (k_in (by decide +kernel)) dX12_init_728 (fun H locs hP hD hS => ?_)
  refine k_con (P := fun (z : Nat → Int32) => va_P D vwCl [x0, x1, x2, x3, x4, x5, (q, .inl (K 1, 146, .inl z))] H ∧ va_D A [x0, x1, x2, x3, x4, x5, (q, .inl (K 1, 146, .inl z))] ∧ wOK 114 z) (upd w112 (113 : Int32).toNatClampNeg (vp_nar .byte 97)) ⟨hP, hD, wOK_s hW (by decide +kernel) (by decide +kernel)⟩ (fun w113 hPD => ?_)
  have hP := hPD.1
  have hD := hPD.2.1
  have hW := hPD.2.2
  refine lv_dup hx hb dX12_init_729 rfl ?_
  refine lv_bipush (v := 114) hx hb dX12_init_730 (by decide) ?_
  refine lv_bipush (v := 116) hx hb dX12_init_732 (by decide) ?_
  refine va_bast hx hb hK hP hD hS 6 1 rfl rfl (k_in (by decide +kernel)) dX12_init_734 (fun H locs hP hD hS => ?_)
  refine k_con (P := fun (z : Nat → Int32) => va_P D vwCl [x0, x1, x2, x3, x4, x5, (q, .inl (K 1, 146, .inl z))] H ∧ va_D A [x0, x1, x2, x3, x4, x5, (q, .inl (K 1, 146, .inl z))] ∧ wOK 115 z) (upd w113 (114 : Int32).toNatClampNeg (vp_nar .byte 116)) ⟨hP, hD, wOK_s hW (by decide +kernel) (by decide +kernel)⟩ (fun w114 hPD => ?_)
  have hP := hPD.1
  have hD := hPD.2.1
  have hW := hPD.2.2
  refine lv_dup hx hb dX12_init_735 rfl ?_
  refine lv_bipush (v := 115) hx hb dX12_init_736 (by decide) ?_
  refine lv_bipush (v := 32) hx hb dX12_init_738 (by decide) ?_
  refine va_bast hx hb hK hP hD hS 6 1 rfl rfl (k_in (by decide +kernel)) dX12_init_740 (fun H locs hP hD hS => ?_)
  refine k_con (P := fun (z : Nat → Int32) => va_P D vwCl [x0, x1, x2, x3, x4, x5, (q, .inl (K 1, 146, .inl z))] H ∧ va_D A [x0, x1, x2, x3, x4, x5, (q, .inl (K 1, 146, .inl z))] ∧ wOK 116 z) (upd w114 (115 : Int32).toNatClampNeg (vp_nar .byte 32)) ⟨hP, hD, wOK_s hW (by decide +kernel) (by decide +kernel)⟩ (fun w115 hPD => ?_)
  have hP := hPD.1
  have hD := hPD.2.1
  have hW := hPD.2.2
  refine lv_dup hx hb dX12_init_741 rfl ?_
  refine lv_bipush (v := 116) hx hb dX12_init_742 (by decide) ?_
  refine lv_bipush (v := 115) hx hb dX12_init_744 (by decide) ?_
  refine va_bast hx hb hK hP hD hS 6 1 rfl rfl (k_in (by decide +kernel)) dX12_init_746 (fun H locs hP hD hS => ?_)
  refine k_con (P := fun (z : Nat → Int32) => va_P D vwCl [x0, x1, x2, x3, x4, x5, (q, .inl (K 1, 146, .inl z))] H ∧ va_D A [x0, x1, x2, x3, x4, x5, (q, .inl (K 1, 146, .inl z))] ∧ wOK 117 z) (upd w115 (116 : Int32).toNatClampNeg (vp_nar .byte 115)) ⟨hP, hD, wOK_s hW (by decide +kernel) (by decide +kernel)⟩ (fun w116 hPD => ?_)
  have hP := hPD.1
  have hD := hPD.2.1
  have hW := hPD.2.2
  refine lv_dup hx hb dX12_init_747 rfl ?_
  refine lv_bipush (v := 117) hx hb dX12_init_748 (by decide) ?_
  refine lv_bipush (v := 101) hx hb dX12_init_750 (by decide) ?_
  refine va_bast hx hb hK hP hD hS 6 1 rfl rfl (k_in (by decide +kernel)) dX12_init_752 (fun H locs hP hD hS => ?_)
  refine k_con (P := fun (z : Nat → Int32) => va_P D vwCl [x0, x1, x2, x3, x4, x5, (q, .inl (K 1, 146, .inl z))] H ∧ va_D A [x0, x1, x2, x3, x4, x5, (q, .inl (K 1, 146, .inl z))] ∧ wOK 118 z) (upd w116 (117 : Int32).toNatClampNeg (vp_nar .byte 101)) ⟨hP, hD, wOK_s hW (by decide +kernel) (by decide +kernel)⟩ (fun w117 hPD => ?_)
  have hP := hPD.1
  have hD := hPD.2.1
  have hW := hPD.2.2
  refine lv_dup hx hb dX12_init_753 rfl ?_
  refine lv_bipush (v := 118) hx hb dX12_init_754 (by decide) ?_
  refine lv_bipush (v := 110) hx hb dX12_init_756 (by decide) ?_
  refine va_bast hx hb hK hP hD hS 6 1 rfl rfl (k_in (by decide +kernel)) dX12_init_758 (fun H locs hP hD hS => ?_)
  refine k_con (P := fun (z : Nat → Int32) => va_P D vwCl [x0, x1, x2, x3, x4, x5, (q, .inl (K 1, 146, .inl z))] H ∧ va_D A [x0, x1, x2, x3, x4, x5, (q, .inl (K 1, 146, .inl z))] ∧ wOK 119 z) (upd w117 (118 : Int32).toNatClampNeg (vp_nar .byte 110)) ⟨hP, hD, wOK_s hW (by decide +kernel) (by decide +kernel)⟩ (fun w118 hPD => ?_)
  have hP := hPD.1
  have hD := hPD.2.1
  have hW := hPD.2.2
  refine lv_dup hx hb dX12_init_759 rfl ?_
  refine lv_bipush (v := 119) hx hb dX12_init_760 (by decide) ?_
  refine lv_bipush (v := 100) hx hb dX12_init_762 (by decide) ?_
  refine va_bast hx hb hK hP hD hS 6 1 rfl rfl (k_in (by decide +kernel)) dX12_init_764 (fun H locs hP hD hS => ?_)
  refine k_con (P := fun (z : Nat → Int32) => va_P D vwCl [x0, x1, x2, x3, x4, x5, (q, .inl (K 1, 146, .inl z))] H ∧ va_D A [x0, x1, x2, x3, x4, x5, (q, .inl (K 1, 146, .inl z))] ∧ wOK 120 z) (upd w118 (119 : Int32).toNatClampNeg (vp_nar .byte 100)) ⟨hP, hD, wOK_s hW (by decide +kernel) (by decide +kernel)⟩ (fun w119 hPD => ?_)
  have hP := hPD.1
  have hD := hPD.2.1
  have hW := hPD.2.2
  refine lv_dup hx hb dX12_init_765 rfl ?_
  refine lv_bipush (v := 120) hx hb dX12_init_766 (by decide) ?_
  refine lv_bipush (v := 32) hx hb dX12_init_768 (by decide) ?_
  refine va_bast hx hb hK hP hD hS 6 1 rfl rfl (k_in (by decide +kernel)) dX12_init_770 (fun H locs hP hD hS => ?_)
  refine k_con (P := fun (z : Nat → Int32) => va_P D vwCl [x0, x1, x2, x3, x4, x5, (q, .inl (K 1, 146, .inl z))] H ∧ va_D A [x0, x1, x2, x3, x4, x5, (q, .inl (K 1, 146, .inl z))] ∧ wOK 121 z) (upd w119 (120 : Int32).toNatClampNeg (vp_nar .byte 32)) ⟨hP, hD, wOK_s hW (by decide +kernel) (by decide +kernel)⟩ (fun w120 hPD => ?_)
  have hP := hPD.1
  have hD := hPD.2.1
  have hW := hPD.2.2
  refine lv_dup hx hb dX12_init_771 rfl ?_
  refine lv_bipush (v := 121) hx hb dX12_init_772 (by decide) ?_
  refine lv_bipush (v := 116) hx hb dX12_init_774 (by decide) ?_
  refine va_bast hx hb hK hP hD hS 6 1 rfl rfl (k_in (by decide +kernel)) dX12_init_776 (fun H locs hP hD hS => ?_)
  refine k_con (P := fun (z : Nat → Int32) => va_P D vwCl [x0, x1, x2, x3, x4, x5, (q, .inl (K 1, 146, .inl z))] H ∧ va_D A [x0, x1, x2, x3, x4, x5, (q, .inl (K 1, 146, .inl z))] ∧ wOK 122 z) (upd w120 (121 : Int32).toNatClampNeg (vp_nar .byte 116)) ⟨hP, hD, wOK_s hW (by decide +kernel) (by decide +kernel)⟩ (fun w121 hPD => ?_)
  have hP := hPD.1
  have hD := hPD.2.1
  have hW := hPD.2.2
  refine lv_dup hx hb dX12_init_777 rfl ?_
  refine lv_bipush (v := 122) hx hb dX12_init_778 (by decide) ?_
  refine lv_bipush (v := 111) hx hb dX12_init_780 (by decide) ?_
  refine va_bast hx hb hK hP hD hS 6 1 rfl rfl (k_in (by decide +kernel)) dX12_init_782 (fun H locs hP hD hS => ?_)
  refine k_con (P := fun (z : Nat → Int32) => va_P D vwCl [x0, x1, x2, x3, x4, x5, (q, .inl (K 1, 146, .inl z))] H ∧ va_D A [x0, x1, x2, x3, x4, x5, (q, .inl (K 1, 146, .inl z))] ∧ wOK 123 z) (upd w121 (122 : Int32).toNatClampNeg (vp_nar .byte 111)) ⟨hP, hD, wOK_s hW (by decide +kernel) (by decide +kernel)⟩ (fun w122 hPD => ?_)
  have hP := hPD.1
  have hD := hPD.2.1
  have hW := hPD.2.2
  refine lv_dup hx hb dX12_init_783 rfl ?_
  refine lv_bipush (v := 123) hx hb dX12_init_784 (by decide) ?_
  refine lv_bipush (v := 32) hx hb dX12_init_786 (by decide) ?_
  refine va_bast hx hb hK hP hD hS 6 1 rfl rfl (k_in (by decide +kernel)) dX12_init_788 (fun H locs hP hD hS => ?_)
  refine k_con (P := fun (z : Nat → Int32) => va_P D vwCl [x0, x1, x2, x3, x4, x5, (q, .inl (K 1, 146, .inl z))] H ∧ va_D A [x0, x1, x2, x3, x4, x5, (q, .inl (K 1, 146, .inl z))] ∧ wOK 124 z) (upd w122 (123 : Int32).toNatClampNeg (vp_nar .byte 32)) ⟨hP, hD, wOK_s hW (by decide +kernel) (by decide +kernel)⟩ (fun w123 hPD => ?_)
  have hP := hPD.1
  have hD := hPD.2.1
  have hW := hPD.2.2
  refine lv_dup hx hb dX12_init_789 rfl ?_
  refine lv_bipush (v := 124) hx hb dX12_init_790 (by decide) ?_
  refine lv_bipush (v := 114) hx hb dX12_init_792 (by decide) ?_
  refine va_bast hx hb hK hP hD hS 6 1 rfl rfl (k_in (by decide +kernel)) dX12_init_794 (fun H locs hP hD hS => ?_)
  refine k_con (P := fun (z : Nat → Int32) => va_P D vwCl [x0, x1, x2, x3, x4, x5, (q, .inl (K 1, 146, .inl z))] H ∧ va_D A [x0, x1, x2, x3, x4, x5, (q, .inl (K 1, 146, .inl z))] ∧ wOK 125 z) (upd w123 (124 : Int32).toNatClampNeg (vp_nar .byte 114)) ⟨hP, hD, wOK_s hW (by decide +kernel) (by decide +kernel)⟩ (fun w124 hPD => ?_)
  have hP := hPD.1
  have hD := hPD.2.1
  have hW := hPD.2.2
  refine lv_dup hx hb dX12_init_795 rfl ?_
  refine lv_bipush (v := 125) hx hb dX12_init_796 (by decide) ?_
  refine lv_bipush (v := 101) hx hb dX12_init_798 (by decide) ?_
  refine va_bast hx hb hK hP hD hS 6 1 rfl rfl (k_in (by decide +kernel)) dX12_init_800 (fun H locs hP hD hS => ?_)
  refine k_con (P := fun (z : Nat → Int32) => va_P D vwCl [x0, x1, x2, x3, x4, x5, (q, .inl (K 1, 146, .inl z))] H ∧ va_D A [x0, x1, x2, x3, x4, x5, (q, .inl (K 1, 146, .inl z))] ∧ wOK 126 z) (upd w124 (125 : Int32).toNatClampNeg (vp_nar .byte 101)) ⟨hP, hD, wOK_s hW (by decide +kernel) (by decide +kernel)⟩ (fun w125 hPD => ?_)
  have hP := hPD.1
  have hD := hPD.2.1
  have hW := hPD.2.2
  refine lv_dup hx hb dX12_init_801 rfl ?_
  refine lv_bipush (v := 126) hx hb dX12_init_802 (by decide) ?_
  refine lv_bipush (v := 115) hx hb dX12_init_804 (by decide) ?_
  refine va_bast hx hb hK hP hD hS 6 1 rfl rfl (k_in (by decide +kernel)) dX12_init_806 (fun H locs hP hD hS => ?_)
  refine k_con (P := fun (z : Nat → Int32) => va_P D vwCl [x0, x1, x2, x3, x4, x5, (q, .inl (K 1, 146, .inl z))] H ∧ va_D A [x0, x1, x2, x3, x4, x5, (q, .inl (K 1, 146, .inl z))] ∧ wOK 127 z) (upd w125 (126 : Int32).toNatClampNeg (vp_nar .byte 115)) ⟨hP, hD, wOK_s hW (by decide +kernel) (by decide +kernel)⟩ (fun w126 hPD => ?_)
  have hP := hPD.1
  have hD := hPD.2.1
  have hW := hPD.2.2
  refine lv_dup hx hb dX12_init_807 rfl ?_
  refine lv_bipush (v := 127) hx hb dX12_init_808 (by decide) ?_
  refine lv_bipush (v := 116) hx hb dX12_init_810 (by decide) ?_
  refine va_bast hx hb hK hP hD hS 6 1 rfl rfl (k_in (by decide +kernel)) dX12_init_812 (fun H locs hP hD hS => ?_)
  refine k_con (P := fun (z : Nat → Int32) => va_P D vwCl [x0, x1, x2, x3, x4, x5, (q, .inl (K 1, 146, .inl z))] H ∧ va_D A [x0, x1, x2, x3, x4, x5, (q, .inl (K 1, 146, .inl z))] ∧ wOK 128 z) (upd w126 (127 : Int32).toNatClampNeg (vp_nar .byte 116)) ⟨hP, hD, wOK_s hW (by decide +kernel) (by decide +kernel)⟩ (fun w127 hPD => ?_)
  have hP := hPD.1
  have hD := hPD.2.1
  have hW := hPD.2.2
  refine lv_dup hx hb dX12_init_813 rfl ?_
  refine lv_sipush (v := 128) hx hb dX12_init_814 (by decide) ?_
  refine lv_bipush (v := 32) hx hb dX12_init_817 (by decide) ?_
  refine va_bast hx hb hK hP hD hS 6 1 rfl rfl (k_in (by decide +kernel)) dX12_init_819 (fun H locs hP hD hS => ?_)
  refine k_con (P := fun (z : Nat → Int32) => va_P D vwCl [x0, x1, x2, x3, x4, x5, (q, .inl (K 1, 146, .inl z))] H ∧ va_D A [x0, x1, x2, x3, x4, x5, (q, .inl (K 1, 146, .inl z))] ∧ wOK 129 z) (upd w127 (128 : Int32).toNatClampNeg (vp_nar .byte 32)) ⟨hP, hD, wOK_s hW (by decide +kernel) (by decide +kernel)⟩ (fun w128 hPD => ?_)
  have hP := hPD.1
  have hD := hPD.2.1
  have hW := hPD.2.2
  refine lv_dup hx hb dX12_init_820 rfl ?_
  refine lv_sipush (v := 129) hx hb dX12_init_821 (by decide) ?_
  refine lv_bipush (v := 116) hx hb dX12_init_824 (by decide) ?_
  refine va_bast hx hb hK hP hD hS 6 1 rfl rfl (k_in (by decide +kernel)) dX12_init_826 (fun H locs hP hD hS => ?_)
  refine k_con (P := fun (z : Nat → Int32) => va_P D vwCl [x0, x1, x2, x3, x4, x5, (q, .inl (K 1, 146, .inl z))] H ∧ va_D A [x0, x1, x2, x3, x4, x5, (q, .inl (K 1, 146, .inl z))] ∧ wOK 130 z) (upd w128 (129 : Int32).toNatClampNeg (vp_nar .byte 116)) ⟨hP, hD, wOK_s hW (by decide +kernel) (by decide +kernel)⟩ (fun w129 hPD => ?_)
  have hP := hPD.1
  have hD := hPD.2.1
  have hW := hPD.2.2
  refine lv_dup hx hb dX12_init_827 rfl ?_
  refine lv_sipush (v := 130) hx hb dX12_init_828 (by decide) ?_
  refine lv_bipush (v := 104) hx hb dX12_init_831 (by decide) ?_
  refine va_bast hx hb hK hP hD hS 6 1 rfl rfl (k_in (by decide +kernel)) dX12_init_833 (fun H locs hP hD hS => ?_)
  refine k_con (P := fun (z : Nat → Int32) => va_P D vwCl [x0, x1, x2, x3, x4, x5, (q, .inl (K 1, 146, .inl z))] H ∧ va_D A [x0, x1, x2, x3, x4, x5, (q, .inl (K 1, 146, .inl z))] ∧ wOK 131 z) (upd w129 (130 : Int32).toNatClampNeg (vp_nar .byte 104)) ⟨hP, hD, wOK_s hW (by decide +kernel) (by decide +kernel)⟩ (fun w130 hPD => ?_)
  have hP := hPD.1
  have hD := hPD.2.1
  have hW := hPD.2.2
  refine lv_dup hx hb dX12_init_834 rfl ?_
  refine lv_sipush (v := 131) hx hb dX12_init_835 (by decide) ?_
  refine lv_bipush (v := 114) hx hb dX12_init_838 (by decide) ?_
  refine va_bast hx hb hK hP hD hS 6 1 rfl rfl (k_in (by decide +kernel)) dX12_init_840 (fun H locs hP hD hS => ?_)
  refine k_con (P := fun (z : Nat → Int32) => va_P D vwCl [x0, x1, x2, x3, x4, x5, (q, .inl (K 1, 146, .inl z))] H ∧ va_D A [x0, x1, x2, x3, x4, x5, (q, .inl (K 1, 146, .inl z))] ∧ wOK 132 z) (upd w130 (131 : Int32).toNatClampNeg (vp_nar .byte 114)) ⟨hP, hD, wOK_s hW (by decide +kernel) (by decide +kernel)⟩ (fun w131 hPD => ?_)
  have hP := hPD.1
  have hD := hPD.2.1
  have hW := hPD.2.2
  refine lv_dup hx hb dX12_init_841 rfl ?_
  refine lv_sipush (v := 132) hx hb dX12_init_842 (by decide) ?_
  refine lv_bipush (v := 111) hx hb dX12_init_845 (by decide) ?_
  refine va_bast hx hb hK hP hD hS 6 1 rfl rfl (k_in (by decide +kernel)) dX12_init_847 (fun H locs hP hD hS => ?_)
  refine k_con (P := fun (z : Nat → Int32) => va_P D vwCl [x0, x1, x2, x3, x4, x5, (q, .inl (K 1, 146, .inl z))] H ∧ va_D A [x0, x1, x2, x3, x4, x5, (q, .inl (K 1, 146, .inl z))] ∧ wOK 133 z) (upd w131 (132 : Int32).toNatClampNeg (vp_nar .byte 111)) ⟨hP, hD, wOK_s hW (by decide +kernel) (by decide +kernel)⟩ (fun w132 hPD => ?_)
  have hP := hPD.1
  have hD := hPD.2.1
  have hW := hPD.2.2
  refine lv_dup hx hb dX12_init_848 rfl ?_
  refine lv_sipush (v := 133) hx hb dX12_init_849 (by decide) ?_
  refine lv_bipush (v := 119) hx hb dX12_init_852 (by decide) ?_
  refine va_bast hx hb hK hP hD hS 6 1 rfl rfl (k_in (by decide +kernel)) dX12_init_854 (fun H locs hP hD hS => ?_)
  refine k_con (P := fun (z : Nat → Int32) => va_P D vwCl [x0, x1, x2, x3, x4, x5, (q, .inl (K 1, 146, .inl z))] H ∧ va_D A [x0, x1, x2, x3, x4, x5, (q, .inl (K 1, 146, .inl z))] ∧ wOK 134 z) (upd w132 (133 : Int32).toNatClampNeg (vp_nar .byte 119)) ⟨hP, hD, wOK_s hW (by decide +kernel) (by decide +kernel)⟩ (fun w133 hPD => ?_)
  have hP := hPD.1
  have hD := hPD.2.1
  have hW := hPD.2.2
  refine lv_dup hx hb dX12_init_855 rfl ?_
  refine lv_sipush (v := 134) hx hb dX12_init_856 (by decide) ?_
  refine lv_bipush (v := 32) hx hb dX12_init_859 (by decide) ?_
  refine va_bast hx hb hK hP hD hS 6 1 rfl rfl (k_in (by decide +kernel)) dX12_init_861 (fun H locs hP hD hS => ?_)
  refine k_con (P := fun (z : Nat → Int32) => va_P D vwCl [x0, x1, x2, x3, x4, x5, (q, .inl (K 1, 146, .inl z))] H ∧ va_D A [x0, x1, x2, x3, x4, x5, (q, .inl (K 1, 146, .inl z))] ∧ wOK 135 z) (upd w133 (134 : Int32).toNatClampNeg (vp_nar .byte 32)) ⟨hP, hD, wOK_s hW (by decide +kernel) (by decide +kernel)⟩ (fun w134 hPD => ?_)
  have hP := hPD.1
  have hD := hPD.2.1
  have hW := hPD.2.2
  refine lv_dup hx hb dX12_init_862 rfl ?_
  refine lv_sipush (v := 135) hx hb dX12_init_863 (by decide) ?_
  refine lv_bipush (v := 116) hx hb dX12_init_866 (by decide) ?_
  refine va_bast hx hb hK hP hD hS 6 1 rfl rfl (k_in (by decide +kernel)) dX12_init_868 (fun H locs hP hD hS => ?_)
  refine k_con (P := fun (z : Nat → Int32) => va_P D vwCl [x0, x1, x2, x3, x4, x5, (q, .inl (K 1, 146, .inl z))] H ∧ va_D A [x0, x1, x2, x3, x4, x5, (q, .inl (K 1, 146, .inl z))] ∧ wOK 136 z) (upd w134 (135 : Int32).toNatClampNeg (vp_nar .byte 116)) ⟨hP, hD, wOK_s hW (by decide +kernel) (by decide +kernel)⟩ (fun w135 hPD => ?_)
  have hP := hPD.1
  have hD := hPD.2.1
  have hW := hPD.2.2
  refine lv_dup hx hb dX12_init_869 rfl ?_
  refine lv_sipush (v := 136) hx hb dX12_init_870 (by decide) ?_
  refine lv_bipush (v := 105) hx hb dX12_init_873 (by decide) ?_
  refine va_bast hx hb hK hP hD hS 6 1 rfl rfl (k_in (by decide +kernel)) dX12_init_875 (fun H locs hP hD hS => ?_)
  refine k_con (P := fun (z : Nat → Int32) => va_P D vwCl [x0, x1, x2, x3, x4, x5, (q, .inl (K 1, 146, .inl z))] H ∧ va_D A [x0, x1, x2, x3, x4, x5, (q, .inl (K 1, 146, .inl z))] ∧ wOK 137 z) (upd w135 (136 : Int32).toNatClampNeg (vp_nar .byte 105)) ⟨hP, hD, wOK_s hW (by decide +kernel) (by decide +kernel)⟩ (fun w136 hPD => ?_)
  have hP := hPD.1
  have hD := hPD.2.1
  have hW := hPD.2.2
  refine lv_dup hx hb dX12_init_876 rfl ?_
  refine lv_sipush (v := 137) hx hb dX12_init_877 (by decide) ?_
  refine lv_bipush (v := 99) hx hb dX12_init_880 (by decide) ?_
  refine va_bast hx hb hK hP hD hS 6 1 rfl rfl (k_in (by decide +kernel)) dX12_init_882 (fun H locs hP hD hS => ?_)
  refine k_con (P := fun (z : Nat → Int32) => va_P D vwCl [x0, x1, x2, x3, x4, x5, (q, .inl (K 1, 146, .inl z))] H ∧ va_D A [x0, x1, x2, x3, x4, x5, (q, .inl (K 1, 146, .inl z))] ∧ wOK 138 z) (upd w136 (137 : Int32).toNatClampNeg (vp_nar .byte 99)) ⟨hP, hD, wOK_s hW (by decide +kernel) (by decide +kernel)⟩ (fun w137 hPD => ?_)
  have hP := hPD.1
  have hD := hPD.2.1
  have hW := hPD.2.2
  refine lv_dup hx hb dX12_init_883 rfl ?_
  refine lv_sipush (v := 138) hx hb dX12_init_884 (by decide) ?_
  refine lv_bipush (v := 107) hx hb dX12_init_887 (by decide) ?_
  refine va_bast hx hb hK hP hD hS 6 1 rfl rfl (k_in (by decide +kernel)) dX12_init_889 (fun H locs hP hD hS => ?_)
  refine k_con (P := fun (z : Nat → Int32) => va_P D vwCl [x0, x1, x2, x3, x4, x5, (q, .inl (K 1, 146, .inl z))] H ∧ va_D A [x0, x1, x2, x3, x4, x5, (q, .inl (K 1, 146, .inl z))] ∧ wOK 139 z) (upd w137 (138 : Int32).toNatClampNeg (vp_nar .byte 107)) ⟨hP, hD, wOK_s hW (by decide +kernel) (by decide +kernel)⟩ (fun w138 hPD => ?_)
  have hP := hPD.1
  have hD := hPD.2.1
  have hW := hPD.2.2
  refine lv_dup hx hb dX12_init_890 rfl ?_
  refine lv_sipush (v := 139) hx hb dX12_init_891 (by decide) ?_
  refine lv_bipush (v := 32) hx hb dX12_init_894 (by decide) ?_
  refine va_bast hx hb hK hP hD hS 6 1 rfl rfl (k_in (by decide +kernel)) dX12_init_896 (fun H locs hP hD hS => ?_)
  refine k_con (P := fun (z : Nat → Int32) => va_P D vwCl [x0, x1, x2, x3, x4, x5, (q, .inl (K 1, 146, .inl z))] H ∧ va_D A [x0, x1, x2, x3, x4, x5, (q, .inl (K 1, 146, .inl z))] ∧ wOK 140 z) (upd w138 (139 : Int32).toNatClampNeg (vp_nar .byte 32)) ⟨hP, hD, wOK_s hW (by decide +kernel) (by decide +kernel)⟩ (fun w139 hPD => ?_)
  have hP := hPD.1
  have hD := hPD.2.1
  have hW := hPD.2.2
  refine lv_dup hx hb dX12_init_897 rfl ?_
  refine lv_sipush (v := 140) hx hb dX12_init_898 (by decide) ?_
  refine lv_bipush (v := 116) hx hb dX12_init_901 (by decide) ?_
  refine va_bast hx hb hK hP hD hS 6 1 rfl rfl (k_in (by decide +kernel)) dX12_init_903 (fun H locs hP hD hS => ?_)
  refine k_con (P := fun (z : Nat → Int32) => va_P D vwCl [x0, x1, x2, x3, x4, x5, (q, .inl (K 1, 146, .inl z))] H ∧ va_D A [x0, x1, x2, x3, x4, x5, (q, .inl (K 1, 146, .inl z))] ∧ wOK 141 z) (upd w139 (140 : Int32).toNatClampNeg (vp_nar .byte 116)) ⟨hP, hD, wOK_s hW (by decide +kernel) (by decide +kernel)⟩ (fun w140 hPD => ?_)
  have hP := hPD.1
  have hD := hPD.2.1
  have hW := hPD.2.2
  refine lv_dup hx hb dX12_init_904 rfl ?_
  refine lv_sipush (v := 141) hx hb dX12_init_905 (by decide) ?_
  refine lv_bipush (v := 105) hx hb dX12_init_908 (by decide) ?_
  refine va_bast hx hb hK hP hD hS 6 1 rfl rfl (k_in (by decide +kernel)) dX12_init_910 (fun H locs hP hD hS => ?_)
  refine k_con (P := fun (z : Nat → Int32) => va_P D vwCl [x0, x1, x2, x3, x4, x5, (q, .inl (K 1, 146, .inl z))] H ∧ va_D A [x0, x1, x2, x3, x4, x5, (q, .inl (K 1, 146, .inl z))] ∧ wOK 142 z) (upd w140 (141 : Int32).toNatClampNeg (vp_nar .byte 105)) ⟨hP, hD, wOK_s hW (by decide +kernel) (by decide +kernel)⟩ (fun w141 hPD => ?_)
  have hP := hPD.1
  have hD := hPD.2.1
  have hW := hPD.2.2
  refine lv_dup hx hb dX12_init_911 rfl ?_
  refine lv_sipush (v := 142) hx hb dX12_init_912 (by decide) ?_
  refine lv_bipush (v := 109) hx hb dX12_init_915 (by decide) ?_
  refine va_bast hx hb hK hP hD hS 6 1 rfl rfl (k_in (by decide +kernel)) dX12_init_917 (fun H locs hP hD hS => ?_)
  refine k_con (P := fun (z : Nat → Int32) => va_P D vwCl [x0, x1, x2, x3, x4, x5, (q, .inl (K 1, 146, .inl z))] H ∧ va_D A [x0, x1, x2, x3, x4, x5, (q, .inl (K 1, 146, .inl z))] ∧ wOK 143 z) (upd w141 (142 : Int32).toNatClampNeg (vp_nar .byte 109)) ⟨hP, hD, wOK_s hW (by decide +kernel) (by decide +kernel)⟩ (fun w142 hPD => ?_)
  have hP := hPD.1
  have hD := hPD.2.1
  have hW := hPD.2.2
  refine lv_dup hx hb dX12_init_918 rfl ?_
  refine lv_sipush (v := 143) hx hb dX12_init_919 (by decide) ?_
  refine lv_bipush (v := 101) hx hb dX12_init_922 (by decide) ?_
  refine va_bast hx hb hK hP hD hS 6 1 rfl rfl (k_in (by decide +kernel)) dX12_init_924 (fun H locs hP hD hS => ?_)
  refine k_con (P := fun (z : Nat → Int32) => va_P D vwCl [x0, x1, x2, x3, x4, x5, (q, .inl (K 1, 146, .inl z))] H ∧ va_D A [x0, x1, x2, x3, x4, x5, (q, .inl (K 1, 146, .inl z))] ∧ wOK 144 z) (upd w142 (143 : Int32).toNatClampNeg (vp_nar .byte 101)) ⟨hP, hD, wOK_s hW (by decide +kernel) (by decide +kernel)⟩ (fun w143 hPD => ?_)
  have hP := hPD.1
  have hD := hPD.2.1
  have hW := hPD.2.2
  refine lv_dup hx hb dX12_init_925 rfl ?_
  refine lv_sipush (v := 144) hx hb dX12_init_926 (by decide) ?_
  refine lv_bipush (v := 115) hx hb dX12_init_929 (by decide) ?_
  refine va_bast hx hb hK hP hD hS 6 1 rfl rfl (k_in (by decide +kernel)) dX12_init_931 (fun H locs hP hD hS => ?_)
  refine k_con (P := fun (z : Nat → Int32) => va_P D vwCl [x0, x1, x2, x3, x4, x5, (q, .inl (K 1, 146, .inl z))] H ∧ va_D A [x0, x1, x2, x3, x4, x5, (q, .inl (K 1, 146, .inl z))] ∧ wOK 145 z) (upd w143 (144 : Int32).toNatClampNeg (vp_nar .byte 115)) ⟨hP, hD, wOK_s hW (by decide +kernel) (by decide +kernel)⟩ (fun w144 hPD => ?_)
  have hP := hPD.1
  have hD := hPD.2.1
  have hW := hPD.2.2
  refine lv_dup hx hb dX12_init_932 rfl ?_
  refine lv_sipush (v := 145) hx hb dX12_init_933 (by decide) ?_
  refine lv_bipush (v := 32) hx hb dX12_init_936 (by decide) ?_
  refine va_bast hx hb hK hP hD hS 6 1 rfl rfl (k_in (by decide +kernel)) dX12_init_938 (fun H locs hP hD hS => ?_)
  refine k_con (P := fun (z : Nat → Int32) => va_P D vwCl [x0, x1, x2, x3, x4, x5, (q, .inl (K 1, 146, .inl z))] H ∧ va_D A [x0, x1, x2, x3, x4, x5, (q, .inl (K 1, 146, .inl z))] ∧ wOK 146 z) (upd w144 (145 : Int32).toNatClampNeg (vp_nar .byte 32)) ⟨hP, hD, wOK_s hW (by decide +kernel) (by decide +kernel)⟩ (fun w145 hPD => ?_)
  have hP := hPD.1
  have hD := hPD.2.1
  have hW := hPD.2.2
  exact kk _ _ _ hP hD hS hW
set_option maxHeartbeats 4000000 in
set_option maxRecDepth 100000 in
theorem c_init2 (l : Launch) {D : va_G} {K : Nat → ClassId} (o : Nat) : kV l yX12_init (Cond.code yX12_init cX12_init 2 none :: kG) (rmD 2 21 21251) D (tysK K) [.ref o] [(o, .inr (12, (.int 0 :: .null :: .null :: .null :: .null :: .null :: .int 0 :: .null :: .int 0 :: .int 0 :: .int 0 :: .null :: .null :: .int 0 :: .int 0 :: .null :: .null :: .null :: .int 0 :: .int 0 :: .int 0 :: .int 0 :: .int 0 :: .int 0 :: .int 0 :: .int 0 :: .null :: .int 0 :: .int 0 :: .null :: .null :: .null :: .null :: .int 0 :: .null :: .null :: .null :: .int 0 :: .int 0 :: .int 0 :: .int 0 :: .int 0 :: .int 0 :: .null :: .null :: .int 0 :: .int 0 :: .int 0 :: [])))] (fun (u : (Nat → Nat) × mS) => mI u.2.1 u.2.2.1 ∧ u.2.1 13 = 0 ∧ u.2.1 6 = 0 ∧ u.2.2.1 11 = (fun _ => 0) ∧ u.2.2.1 4 0 = 0 ∧ u.2.2.1 4 1 = 0 ∧ u.2.1 14 = -1 ∧ u.2.1 37 = -1 ∧ u.2.1 0 = 0 ∧ u.2.1 33 = 0 ∧ u.2.2.1 1 = (fun _ => 0) ∧ kQe kz (u.2.2.1 2)) (fun u => mW K o u.1 u.2.1 u.2.2.1 u.2.2.2) 21 21251 := by
  refine kV.of (cc := cX12_init) (maxL := 2) (ret := none) (by decide) rfl (Nat.le_of_ble_eq_true rfl) ?_
  intro p e s m below meth c A hx hb hr hml hown hts hlocks hin hK hP hD hS hA ls hl
  have hg : ∀ w ∈ kG, w.before _ s = true := fun w h => hts w (List.mem_cons_of_mem _ h)
  have hown : s.vm.findClass RX12 = some m.cls := hown
  have hl : lv_has ls 2 [(0, .ref o)] := hl
  refine lv_aload_n hx hb dX12_init_0 rfl (lv_at hl 0 rfl) ?_
  refine W.objInit hx hb hown (hg _ wt5_159) (hg _ wt1_28) (hg _ wt1_29) rfl (by rw [hml]; exact hl.1) rfl dX12_init_1 (Nat.le_of_ble_eq_true rfl) (Nat.le_of_ble_eq_true rfl) ?_
  refine W.eq (g2 := F0 m 4 ls []) rfl ?_
  refine lv_aload_n hx hb dX12_init_4 rfl (lv_at hl 0 rfl) ?_
  refine lv_bipush (v := 7) hx hb dX12_init_5 (by decide) ?_
  refine k_newa (atype := .int) (a0 := (7, .inl (fun _ => 0))) hx hb (hg _ wt1_77) rfl hK hP hD hS hA 0 rfl (fun _ => rfl) (by decide) (by decide +kernel) (by decide) (by decide) (by decide) dX12_init_7 (fun q0 H hP hD hS => ?_)
  have hP : va_P D vwCl [(o, .inr (12, (.int 0 :: .null :: .null :: .null :: .null :: .null :: .int 0 :: .null :: .int 0 :: .int 0 :: .int 0 :: .null :: .null :: .int 0 :: .int 0 :: .null :: .null :: .null :: .int 0 :: .int 0 :: .int 0 :: .int 0 :: .int 0 :: .int 0 :: .int 0 :: .int 0 :: .null :: .int 0 :: .int 0 :: .null :: .null :: .null :: .null :: .int 0 :: .null :: .null :: .null :: .int 0 :: .int 0 :: .int 0 :: .int 0 :: .int 0 :: .int 0 :: .null :: .null :: .int 0 :: .int 0 :: .int 0 :: []))), (q0, .inl (K 0, 7, .inl (fun _ => 0)))] H := hP
  have hD : va_D A [(o, .inr (12, (.int 0 :: .null :: .null :: .null :: .null :: .null :: .int 0 :: .null :: .int 0 :: .int 0 :: .int 0 :: .null :: .null :: .int 0 :: .int 0 :: .null :: .null :: .null :: .int 0 :: .int 0 :: .int 0 :: .int 0 :: .int 0 :: .int 0 :: .int 0 :: .int 0 :: .null :: .int 0 :: .int 0 :: .null :: .null :: .null :: .null :: .int 0 :: .null :: .null :: .null :: .int 0 :: .int 0 :: .int 0 :: .int 0 :: .int 0 :: .int 0 :: .null :: .null :: .int 0 :: .int 0 :: .int 0 :: []))), (q0, .inl (K 0, 7, .inl (fun _ => 0)))] := hD
  refine va_putF (D := D) (ci := 12) (v := .ref q0) (ty := (.array .int)) (C := RX12) (T := TX12) (N := 48) hx hb hg inC12 tyX12 tyX12_ok nmX12 hown hK hP hD hS 0 rfl rfl 1 (by decide) (hg _ wt5_161) (fun _ h9 => h9) rfl hin rfl (by decide +kernel) rfl rfl (Nat.le_of_ble_eq_true rfl) dX12_init_9 (fun H locs hP hD hS => ?_)
  have hP : va_P D vwCl [(o, .inr (12, (.int 0 :: .ref q0 :: .null :: .null :: .null :: .null :: .int 0 :: .null :: .int 0 :: .int 0 :: .int 0 :: .null :: .null :: .int 0 :: .int 0 :: .null :: .null :: .null :: .int 0 :: .int 0 :: .int 0 :: .int 0 :: .int 0 :: .int 0 :: .int 0 :: .int 0 :: .null :: .int 0 :: .int 0 :: .null :: .null :: .null :: .null :: .int 0 :: .null :: .null :: .null :: .int 0 :: .int 0 :: .int 0 :: .int 0 :: .int 0 :: .int 0 :: .null :: .null :: .int 0 :: .int 0 :: .int 0 :: []))), (q0, .inl (K 0, 7, .inl (fun _ => 0)))] H := hP
  have hD : va_D A [(o, .inr (12, (.int 0 :: .ref q0 :: .null :: .null :: .null :: .null :: .int 0 :: .null :: .int 0 :: .int 0 :: .int 0 :: .null :: .null :: .int 0 :: .int 0 :: .null :: .null :: .null :: .int 0 :: .int 0 :: .int 0 :: .int 0 :: .int 0 :: .int 0 :: .int 0 :: .int 0 :: .null :: .int 0 :: .int 0 :: .null :: .null :: .null :: .null :: .int 0 :: .null :: .null :: .null :: .int 0 :: .int 0 :: .int 0 :: .int 0 :: .int 0 :: .int 0 :: .null :: .null :: .int 0 :: .int 0 :: .int 0 :: []))), (q0, .inl (K 0, 7, .inl (fun _ => 0)))] := hD
  refine lv_aload_n hx hb dX12_init_12 rfl (lv_at hl 0 rfl) ?_
  refine lv_sipush (v := 5714) hx hb dX12_init_13 (by decide) ?_
  refine k_newa (atype := .int) (a0 := (5714, .inl (fun _ => 0))) hx hb (hg _ wt1_77) rfl hK hP hD hS hA 0 rfl (fun _ => rfl) (by decide) (by decide +kernel) (by decide) (by decide) (by decide) dX12_init_16 (fun q1 H hP hD hS => ?_)
  have hP : va_P D vwCl [(o, .inr (12, (.int 0 :: .ref q0 :: .null :: .null :: .null :: .null :: .int 0 :: .null :: .int 0 :: .int 0 :: .int 0 :: .null :: .null :: .int 0 :: .int 0 :: .null :: .null :: .null :: .int 0 :: .int 0 :: .int 0 :: .int 0 :: .int 0 :: .int 0 :: .int 0 :: .int 0 :: .null :: .int 0 :: .int 0 :: .null :: .null :: .null :: .null :: .int 0 :: .null :: .null :: .null :: .int 0 :: .int 0 :: .int 0 :: .int 0 :: .int 0 :: .int 0 :: .null :: .null :: .int 0 :: .int 0 :: .int 0 :: []))), (q0, .inl (K 0, 7, .inl (fun _ => 0))), (q1, .inl (K 0, 5714, .inl (fun _ => 0)))] H := hP
  have hD : va_D A [(o, .inr (12, (.int 0 :: .ref q0 :: .null :: .null :: .null :: .null :: .int 0 :: .null :: .int 0 :: .int 0 :: .int 0 :: .null :: .null :: .int 0 :: .int 0 :: .null :: .null :: .null :: .int 0 :: .int 0 :: .int 0 :: .int 0 :: .int 0 :: .int 0 :: .int 0 :: .int 0 :: .null :: .int 0 :: .int 0 :: .null :: .null :: .null :: .null :: .int 0 :: .null :: .null :: .null :: .int 0 :: .int 0 :: .int 0 :: .int 0 :: .int 0 :: .int 0 :: .null :: .null :: .int 0 :: .int 0 :: .int 0 :: []))), (q0, .inl (K 0, 7, .inl (fun _ => 0))), (q1, .inl (K 0, 5714, .inl (fun _ => 0)))] := hD
  refine va_putF (D := D) (ci := 12) (v := .ref q1) (ty := (.array .int)) (C := RX12) (T := TX12) (N := 48) hx hb hg inC12 tyX12 tyX12_ok nmX12 hown hK hP hD hS 0 rfl rfl 2 (by decide) (hg _ wt5_162) (fun _ h9 => h9) rfl hin rfl (by decide +kernel) rfl rfl (Nat.le_of_ble_eq_true rfl) dX12_init_18 (fun H locs hP hD hS => ?_)
  have hP : va_P D vwCl [(o, .inr (12, (.int 0 :: .ref q0 :: .ref q1 :: .null :: .null :: .null :: .int 0 :: .null :: .int 0 :: .int 0 :: .int 0 :: .null :: .null :: .int 0 :: .int 0 :: .null :: .null :: .null :: .int 0 :: .int 0 :: .int 0 :: .int 0 :: .int 0 :: .int 0 :: .int 0 :: .int 0 :: .null :: .int 0 :: .int 0 :: .null :: .null :: .null :: .null :: .int 0 :: .null :: .null :: .null :: .int 0 :: .int 0 :: .int 0 :: .int 0 :: .int 0 :: .int 0 :: .null :: .null :: .int 0 :: .int 0 :: .int 0 :: []))), (q0, .inl (K 0, 7, .inl (fun _ => 0))), (q1, .inl (K 0, 5714, .inl (fun _ => 0)))] H := hP
  have hD : va_D A [(o, .inr (12, (.int 0 :: .ref q0 :: .ref q1 :: .null :: .null :: .null :: .int 0 :: .null :: .int 0 :: .int 0 :: .int 0 :: .null :: .null :: .int 0 :: .int 0 :: .null :: .null :: .null :: .int 0 :: .int 0 :: .int 0 :: .int 0 :: .int 0 :: .int 0 :: .int 0 :: .int 0 :: .null :: .int 0 :: .int 0 :: .null :: .null :: .null :: .null :: .int 0 :: .null :: .null :: .null :: .int 0 :: .int 0 :: .int 0 :: .int 0 :: .int 0 :: .int 0 :: .null :: .null :: .int 0 :: .int 0 :: .int 0 :: []))), (q0, .inl (K 0, 7, .inl (fun _ => 0))), (q1, .inl (K 0, 5714, .inl (fun _ => 0)))] := hD
  refine lv_aload_n hx hb dX12_init_21 rfl (lv_at hl 0 rfl) ?_
  refine lv_sipush (v := 11428) hx hb dX12_init_22 (by decide) ?_
  refine k_newa (atype := .int) (a0 := (11428, .inl (fun _ => 0))) hx hb (hg _ wt1_77) rfl hK hP hD hS hA 0 rfl (fun _ => rfl) (by decide) (by decide +kernel) (by decide) (by decide) (by decide) dX12_init_25 (fun q2 H hP hD hS => ?_)
  have hP : va_P D vwCl [(o, .inr (12, (.int 0 :: .ref q0 :: .ref q1 :: .null :: .null :: .null :: .int 0 :: .null :: .int 0 :: .int 0 :: .int 0 :: .null :: .null :: .int 0 :: .int 0 :: .null :: .null :: .null :: .int 0 :: .int 0 :: .int 0 :: .int 0 :: .int 0 :: .int 0 :: .int 0 :: .int 0 :: .null :: .int 0 :: .int 0 :: .null :: .null :: .null :: .null :: .int 0 :: .null :: .null :: .null :: .int 0 :: .int 0 :: .int 0 :: .int 0 :: .int 0 :: .int 0 :: .null :: .null :: .int 0 :: .int 0 :: .int 0 :: []))), (q0, .inl (K 0, 7, .inl (fun _ => 0))), (q1, .inl (K 0, 5714, .inl (fun _ => 0))), (q2, .inl (K 0, 11428, .inl (fun _ => 0)))] H := hP
  have hD : va_D A [(o, .inr (12, (.int 0 :: .ref q0 :: .ref q1 :: .null :: .null :: .null :: .int 0 :: .null :: .int 0 :: .int 0 :: .int 0 :: .null :: .null :: .int 0 :: .int 0 :: .null :: .null :: .null :: .int 0 :: .int 0 :: .int 0 :: .int 0 :: .int 0 :: .int 0 :: .int 0 :: .int 0 :: .null :: .int 0 :: .int 0 :: .null :: .null :: .null :: .null :: .int 0 :: .null :: .null :: .null :: .int 0 :: .int 0 :: .int 0 :: .int 0 :: .int 0 :: .int 0 :: .null :: .null :: .int 0 :: .int 0 :: .int 0 :: []))), (q0, .inl (K 0, 7, .inl (fun _ => 0))), (q1, .inl (K 0, 5714, .inl (fun _ => 0))), (q2, .inl (K 0, 11428, .inl (fun _ => 0)))] := hD
  refine va_putF (D := D) (ci := 12) (v := .ref q2) (ty := (.array .int)) (C := RX12) (T := TX12) (N := 48) hx hb hg inC12 tyX12 tyX12_ok nmX12 hown hK hP hD hS 0 rfl rfl 3 (by decide) (hg _ wt5_163) (fun _ h9 => h9) rfl hin rfl (by decide +kernel) rfl rfl (Nat.le_of_ble_eq_true rfl) dX12_init_27 (fun H locs hP hD hS => ?_)
  have hP : va_P D vwCl [(o, .inr (12, (.int 0 :: .ref q0 :: .ref q1 :: .ref q2 :: .null :: .null :: .int 0 :: .null :: .int 0 :: .int 0 :: .int 0 :: .null :: .null :: .int 0 :: .int 0 :: .null :: .null :: .null :: .int 0 :: .int 0 :: .int 0 :: .int 0 :: .int 0 :: .int 0 :: .int 0 :: .int 0 :: .null :: .int 0 :: .int 0 :: .null :: .null :: .null :: .null :: .int 0 :: .null :: .null :: .null :: .int 0 :: .int 0 :: .int 0 :: .int 0 :: .int 0 :: .int 0 :: .null :: .null :: .int 0 :: .int 0 :: .int 0 :: []))), (q0, .inl (K 0, 7, .inl (fun _ => 0))), (q1, .inl (K 0, 5714, .inl (fun _ => 0))), (q2, .inl (K 0, 11428, .inl (fun _ => 0)))] H := hP
  have hD : va_D A [(o, .inr (12, (.int 0 :: .ref q0 :: .ref q1 :: .ref q2 :: .null :: .null :: .int 0 :: .null :: .int 0 :: .int 0 :: .int 0 :: .null :: .null :: .int 0 :: .int 0 :: .null :: .null :: .null :: .int 0 :: .int 0 :: .int 0 :: .int 0 :: .int 0 :: .int 0 :: .int 0 :: .int 0 :: .null :: .int 0 :: .int 0 :: .null :: .null :: .null :: .null :: .int 0 :: .null :: .null :: .null :: .int 0 :: .int 0 :: .int 0 :: .int 0 :: .int 0 :: .int 0 :: .null :: .null :: .int 0 :: .int 0 :: .int 0 :: []))), (q0, .inl (K 0, 7, .inl (fun _ => 0))), (q1, .inl (K 0, 5714, .inl (fun _ => 0))), (q2, .inl (K 0, 11428, .inl (fun _ => 0)))] := hD
  refine lv_aload_n hx hb dX12_init_30 rfl (lv_at hl 0 rfl) ?_
  refine lv_iconst (v := 2) hx hb dX12_init_31 (by decide) ?_
  refine k_newa (atype := .boolean) (a0 := (2, .inl (fun _ => 0))) hx hb (hg _ wt2_146) rfl hK hP hD hS hA 2 rfl (fun _ => rfl) (by decide) (by decide +kernel) (by decide) (by decide) (by decide) dX12_init_32 (fun q3 H hP hD hS => ?_)
  have hP : va_P D vwCl [(o, .inr (12, (.int 0 :: .ref q0 :: .ref q1 :: .ref q2 :: .null :: .null :: .int 0 :: .null :: .int 0 :: .int 0 :: .int 0 :: .null :: .null :: .int 0 :: .int 0 :: .null :: .null :: .null :: .int 0 :: .int 0 :: .int 0 :: .int 0 :: .int 0 :: .int 0 :: .int 0 :: .int 0 :: .null :: .int 0 :: .int 0 :: .null :: .null :: .null :: .null :: .int 0 :: .null :: .null :: .null :: .int 0 :: .int 0 :: .int 0 :: .int 0 :: .int 0 :: .int 0 :: .null :: .null :: .int 0 :: .int 0 :: .int 0 :: []))), (q0, .inl (K 0, 7, .inl (fun _ => 0))), (q1, .inl (K 0, 5714, .inl (fun _ => 0))), (q2, .inl (K 0, 11428, .inl (fun _ => 0))), (q3, .inl (K 2, 2, .inl (fun _ => 0)))] H := hP
  have hD : va_D A [(o, .inr (12, (.int 0 :: .ref q0 :: .ref q1 :: .ref q2 :: .null :: .null :: .int 0 :: .null :: .int 0 :: .int 0 :: .int 0 :: .null :: .null :: .int 0 :: .int 0 :: .null :: .null :: .null :: .int 0 :: .int 0 :: .int 0 :: .int 0 :: .int 0 :: .int 0 :: .int 0 :: .int 0 :: .null :: .int 0 :: .int 0 :: .null :: .null :: .null :: .null :: .int 0 :: .null :: .null :: .null :: .int 0 :: .int 0 :: .int 0 :: .int 0 :: .int 0 :: .int 0 :: .null :: .null :: .int 0 :: .int 0 :: .int 0 :: []))), (q0, .inl (K 0, 7, .inl (fun _ => 0))), (q1, .inl (K 0, 5714, .inl (fun _ => 0))), (q2, .inl (K 0, 11428, .inl (fun _ => 0))), (q3, .inl (K 2, 2, .inl (fun _ => 0)))] := hD
  refine va_putF (D := D) (ci := 12) (v := .ref q3) (ty := (.array .boolean)) (C := RX12) (T := TX12) (N := 48) hx hb hg inC12 tyX12 tyX12_ok nmX12 hown hK hP hD hS 0 rfl rfl 4 (by decide) (hg _ wt5_164) (fun _ h9 => h9) rfl hin rfl (by decide +kernel) rfl rfl (Nat.le_of_ble_eq_true rfl) dX12_init_34 (fun H locs hP hD hS => ?_)
  have hP : va_P D vwCl [(o, .inr (12, (.int 0 :: .ref q0 :: .ref q1 :: .ref q2 :: .ref q3 :: .null :: .int 0 :: .null :: .int 0 :: .int 0 :: .int 0 :: .null :: .null :: .int 0 :: .int 0 :: .null :: .null :: .null :: .int 0 :: .int 0 :: .int 0 :: .int 0 :: .int 0 :: .int 0 :: .int 0 :: .int 0 :: .null :: .int 0 :: .int 0 :: .null :: .null :: .null :: .null :: .int 0 :: .null :: .null :: .null :: .int 0 :: .int 0 :: .int 0 :: .int 0 :: .int 0 :: .int 0 :: .null :: .null :: .int 0 :: .int 0 :: .int 0 :: []))), (q0, .inl (K 0, 7, .inl (fun _ => 0))), (q1, .inl (K 0, 5714, .inl (fun _ => 0))), (q2, .inl (K 0, 11428, .inl (fun _ => 0))), (q3, .inl (K 2, 2, .inl (fun _ => 0)))] H := hP
  have hD : va_D A [(o, .inr (12, (.int 0 :: .ref q0 :: .ref q1 :: .ref q2 :: .ref q3 :: .null :: .int 0 :: .null :: .int 0 :: .int 0 :: .int 0 :: .null :: .null :: .int 0 :: .int 0 :: .null :: .null :: .null :: .int 0 :: .int 0 :: .int 0 :: .int 0 :: .int 0 :: .int 0 :: .int 0 :: .int 0 :: .null :: .int 0 :: .int 0 :: .null :: .null :: .null :: .null :: .int 0 :: .null :: .null :: .null :: .int 0 :: .int 0 :: .int 0 :: .int 0 :: .int 0 :: .int 0 :: .null :: .null :: .int 0 :: .int 0 :: .int 0 :: []))), (q0, .inl (K 0, 7, .inl (fun _ => 0))), (q1, .inl (K 0, 5714, .inl (fun _ => 0))), (q2, .inl (K 0, 11428, .inl (fun _ => 0))), (q3, .inl (K 2, 2, .inl (fun _ => 0)))] := hD
  refine lv_aload_n hx hb dX12_init_37 rfl (lv_at hl 0 rfl) ?_
  refine lv_bipush (v := 46) hx hb dX12_init_38 (by decide) ?_
  refine k_newa (atype := .int) (a0 := (46, .inl (fun _ => 0))) hx hb (hg _ wt1_77) rfl hK hP hD hS hA 0 rfl (fun _ => rfl) (by decide) (by decide +kernel) (by decide) (by decide) (by decide) dX12_init_40 (fun q4 H hP hD hS => ?_)
  have hP : va_P D vwCl [(o, .inr (12, (.int 0 :: .ref q0 :: .ref q1 :: .ref q2 :: .ref q3 :: .null :: .int 0 :: .null :: .int 0 :: .int 0 :: .int 0 :: .null :: .null :: .int 0 :: .int 0 :: .null :: .null :: .null :: .int 0 :: .int 0 :: .int 0 :: .int 0 :: .int 0 :: .int 0 :: .int 0 :: .int 0 :: .null :: .int 0 :: .int 0 :: .null :: .null :: .null :: .null :: .int 0 :: .null :: .null :: .null :: .int 0 :: .int 0 :: .int 0 :: .int 0 :: .int 0 :: .int 0 :: .null :: .null :: .int 0 :: .int 0 :: .int 0 :: []))), (q0, .inl (K 0, 7, .inl (fun _ => 0))), (q1, .inl (K 0, 5714, .inl (fun _ => 0))), (q2, .inl (K 0, 11428, .inl (fun _ => 0))), (q3, .inl (K 2, 2, .inl (fun _ => 0))), (q4, .inl (K 0, 46, .inl (fun _ => 0)))] H := hP
  have hD : va_D A [(o, .inr (12, (.int 0 :: .ref q0 :: .ref q1 :: .ref q2 :: .ref q3 :: .null :: .int 0 :: .null :: .int 0 :: .int 0 :: .int 0 :: .null :: .null :: .int 0 :: .int 0 :: .null :: .null :: .null :: .int 0 :: .int 0 :: .int 0 :: .int 0 :: .int 0 :: .int 0 :: .int 0 :: .int 0 :: .null :: .int 0 :: .int 0 :: .null :: .null :: .null :: .null :: .int 0 :: .null :: .null :: .null :: .int 0 :: .int 0 :: .int 0 :: .int 0 :: .int 0 :: .int 0 :: .null :: .null :: .int 0 :: .int 0 :: .int 0 :: []))), (q0, .inl (K 0, 7, .inl (fun _ => 0))), (q1, .inl (K 0, 5714, .inl (fun _ => 0))), (q2, .inl (K 0, 11428, .inl (fun _ => 0))), (q3, .inl (K 2, 2, .inl (fun _ => 0))), (q4, .inl (K 0, 46, .inl (fun _ => 0)))] := hD
  refine va_putF (D := D) (ci := 12) (v := .ref q4) (ty := (.array .int)) (C := RX12) (T := TX12) (N := 48) hx hb hg inC12 tyX12 tyX12_ok nmX12 hown hK hP hD hS 0 rfl rfl 5 (by decide) (hg _ wt5_165) (fun _ h9 => h9) rfl hin rfl (by decide +kernel) rfl rfl (Nat.le_of_ble_eq_true rfl) dX12_init_42 (fun H locs hP hD hS => ?_)
  have hP : va_P D vwCl [(o, .inr (12, (.int 0 :: .ref q0 :: .ref q1 :: .ref q2 :: .ref q3 :: .ref q4 :: .int 0 :: .null :: .int 0 :: .int 0 :: .int 0 :: .null :: .null :: .int 0 :: .int 0 :: .null :: .null :: .null :: .int 0 :: .int 0 :: .int 0 :: .int 0 :: .int 0 :: .int 0 :: .int 0 :: .int 0 :: .null :: .int 0 :: .int 0 :: .null :: .null :: .null :: .null :: .int 0 :: .null :: .null :: .null :: .int 0 :: .int 0 :: .int 0 :: .int 0 :: .int 0 :: .int 0 :: .null :: .null :: .int 0 :: .int 0 :: .int 0 :: []))), (q0, .inl (K 0, 7, .inl (fun _ => 0))), (q1, .inl (K 0, 5714, .inl (fun _ => 0))), (q2, .inl (K 0, 11428, .inl (fun _ => 0))), (q3, .inl (K 2, 2, .inl (fun _ => 0))), (q4, .inl (K 0, 46, .inl (fun _ => 0)))] H := hP
  have hD : va_D A [(o, .inr (12, (.int 0 :: .ref q0 :: .ref q1 :: .ref q2 :: .ref q3 :: .ref q4 :: .int 0 :: .null :: .int 0 :: .int 0 :: .int 0 :: .null :: .null :: .int 0 :: .int 0 :: .null :: .null :: .null :: .int 0 :: .int 0 :: .int 0 :: .int 0 :: .int 0 :: .int 0 :: .int 0 :: .int 0 :: .null :: .int 0 :: .int 0 :: .null :: .null :: .null :: .null :: .int 0 :: .null :: .null :: .null :: .int 0 :: .int 0 :: .int 0 :: .int 0 :: .int 0 :: .int 0 :: .null :: .null :: .int 0 :: .int 0 :: .int 0 :: []))), (q0, .inl (K 0, 7, .inl (fun _ => 0))), (q1, .inl (K 0, 5714, .inl (fun _ => 0))), (q2, .inl (K 0, 11428, .inl (fun _ => 0))), (q3, .inl (K 2, 2, .inl (fun _ => 0))), (q4, .inl (K 0, 46, .inl (fun _ => 0)))] := hD
  refine lv_aload_n hx hb dX12_init_45 rfl (lv_at hl 0 rfl) ?_
  refine lv_sipush (v := 146) hx hb dX12_init_46 (by decide) ?_
  refine k_newa (atype := .byte) (a0 := (146, .inl (fun _ => 0))) hx hb (hg _ wt2_238) rfl hK hP hD hS hA 1 rfl (fun _ => rfl) (by decide) (by decide +kernel) (by decide) (by decide) (by decide) dX12_init_49 (fun q5 H hP hD hS => ?_)
  have hP : va_P D vwCl [(o, .inr (12, (.int 0 :: .ref q0 :: .ref q1 :: .ref q2 :: .ref q3 :: .ref q4 :: .int 0 :: .null :: .int 0 :: .int 0 :: .int 0 :: .null :: .null :: .int 0 :: .int 0 :: .null :: .null :: .null :: .int 0 :: .int 0 :: .int 0 :: .int 0 :: .int 0 :: .int 0 :: .int 0 :: .int 0 :: .null :: .int 0 :: .int 0 :: .null :: .null :: .null :: .null :: .int 0 :: .null :: .null :: .null :: .int 0 :: .int 0 :: .int 0 :: .int 0 :: .int 0 :: .int 0 :: .null :: .null :: .int 0 :: .int 0 :: .int 0 :: []))), (q0, .inl (K 0, 7, .inl (fun _ => 0))), (q1, .inl (K 0, 5714, .inl (fun _ => 0))), (q2, .inl (K 0, 11428, .inl (fun _ => 0))), (q3, .inl (K 2, 2, .inl (fun _ => 0))), (q4, .inl (K 0, 46, .inl (fun _ => 0))), (q5, .inl (K 1, 146, .inl (fun _ => 0)))] H := hP
  have hD : va_D A [(o, .inr (12, (.int 0 :: .ref q0 :: .ref q1 :: .ref q2 :: .ref q3 :: .ref q4 :: .int 0 :: .null :: .int 0 :: .int 0 :: .int 0 :: .null :: .null :: .int 0 :: .int 0 :: .null :: .null :: .null :: .int 0 :: .int 0 :: .int 0 :: .int 0 :: .int 0 :: .int 0 :: .int 0 :: .int 0 :: .null :: .int 0 :: .int 0 :: .null :: .null :: .null :: .null :: .int 0 :: .null :: .null :: .null :: .int 0 :: .int 0 :: .int 0 :: .int 0 :: .int 0 :: .int 0 :: .null :: .null :: .int 0 :: .int 0 :: .int 0 :: []))), (q0, .inl (K 0, 7, .inl (fun _ => 0))), (q1, .inl (K 0, 5714, .inl (fun _ => 0))), (q2, .inl (K 0, 11428, .inl (fun _ => 0))), (q3, .inl (K 2, 2, .inl (fun _ => 0))), (q4, .inl (K 0, 46, .inl (fun _ => 0))), (q5, .inl (K 1, 146, .inl (fun _ => 0)))] := hD
  refine c_iw1 l hx hb hK hP hD hS (fun i h => absurd h (Nat.not_lt_zero i)) (fun w36 H locs hP hD hS hW => ?_)
  refine c_iw2 l hx hb hK hP hD hS hW (fun w73 H locs hP hD hS hW => ?_)
  refine c_iw3 l hx hb hK hP hD hS hW (fun w109 H locs hP hD hS hW => ?_)
  refine c_iw4 l hx hb hK hP hD hS hW (fun w145 H locs hP hD hS hW => ?_)
  refine va_putF (D := D) (ci := 12) (v := .ref q5) (ty := (.array .byte)) (C := RX12) (T := TX12) (N := 48) hx hb hg inC12 tyX12 tyX12_ok nmX12 hown hK hP hD hS 0 rfl rfl 7 (by decide) (hg _ wt5_167) (fun _ h9 => h9) rfl hin rfl (by decide +kernel) rfl rfl (Nat.le_of_ble_eq_true rfl) dX12_init_939 (fun H locs hP hD hS => ?_)
  have hP : va_P D vwCl [(o, .inr (12, (.int 0 :: .ref q0 :: .ref q1 :: .ref q2 :: .ref q3 :: .ref q4 :: .int 0 :: .ref q5 :: .int 0 :: .int 0 :: .int 0 :: .null :: .null :: .int 0 :: .int 0 :: .null :: .null :: .null :: .int 0 :: .int 0 :: .int 0 :: .int 0 :: .int 0 :: .int 0 :: .int 0 :: .int 0 :: .null :: .int 0 :: .int 0 :: .null :: .null :: .null :: .null :: .int 0 :: .null :: .null :: .null :: .int 0 :: .int 0 :: .int 0 :: .int 0 :: .int 0 :: .int 0 :: .null :: .null :: .int 0 :: .int 0 :: .int 0 :: []))), (q0, .inl (K 0, 7, .inl (fun _ => 0))), (q1, .inl (K 0, 5714, .inl (fun _ => 0))), (q2, .inl (K 0, 11428, .inl (fun _ => 0))), (q3, .inl (K 2, 2, .inl (fun _ => 0))), (q4, .inl (K 0, 46, .inl (fun _ => 0))), (q5, .inl (K 1, 146, .inl w145))] H := hP
  have hD : va_D A [(o, .inr (12, (.int 0 :: .ref q0 :: .ref q1 :: .ref q2 :: .ref q3 :: .ref q4 :: .int 0 :: .ref q5 :: .int 0 :: .int 0 :: .int 0 :: .null :: .null :: .int 0 :: .int 0 :: .null :: .null :: .null :: .int 0 :: .int 0 :: .int 0 :: .int 0 :: .int 0 :: .int 0 :: .int 0 :: .int 0 :: .null :: .int 0 :: .int 0 :: .null :: .null :: .null :: .null :: .int 0 :: .null :: .null :: .null :: .int 0 :: .int 0 :: .int 0 :: .int 0 :: .int 0 :: .int 0 :: .null :: .null :: .int 0 :: .int 0 :: .int 0 :: []))), (q0, .inl (K 0, 7, .inl (fun _ => 0))), (q1, .inl (K 0, 5714, .inl (fun _ => 0))), (q2, .inl (K 0, 11428, .inl (fun _ => 0))), (q3, .inl (K 2, 2, .inl (fun _ => 0))), (q4, .inl (K 0, 46, .inl (fun _ => 0))), (q5, .inl (K 1, 146, .inl w145))] := hD
  refine lv_aload_n hx hb dX12_init_942 rfl (lv_at hl 0 rfl) ?_
  refine lv_sipush (v := 400) hx hb dX12_init_943 (by decide) ?_
  refine k_newa (atype := .byte) (a0 := (400, .inl (fun _ => 0))) hx hb (hg _ wt2_238) rfl hK hP hD hS hA 1 rfl (fun _ => rfl) (by decide) (by decide +kernel) (by decide) (by decide) (by decide) dX12_init_946 (fun q6 H hP hD hS => ?_)
  have hP : va_P D vwCl [(o, .inr (12, (.int 0 :: .ref q0 :: .ref q1 :: .ref q2 :: .ref q3 :: .ref q4 :: .int 0 :: .ref q5 :: .int 0 :: .int 0 :: .int 0 :: .null :: .null :: .int 0 :: .int 0 :: .null :: .null :: .null :: .int 0 :: .int 0 :: .int 0 :: .int 0 :: .int 0 :: .int 0 :: .int 0 :: .int 0 :: .null :: .int 0 :: .int 0 :: .null :: .null :: .null :: .null :: .int 0 :: .null :: .null :: .null :: .int 0 :: .int 0 :: .int 0 :: .int 0 :: .int 0 :: .int 0 :: .null :: .null :: .int 0 :: .int 0 :: .int 0 :: []))), (q0, .inl (K 0, 7, .inl (fun _ => 0))), (q1, .inl (K 0, 5714, .inl (fun _ => 0))), (q2, .inl (K 0, 11428, .inl (fun _ => 0))), (q3, .inl (K 2, 2, .inl (fun _ => 0))), (q4, .inl (K 0, 46, .inl (fun _ => 0))), (q5, .inl (K 1, 146, .inl w145)), (q6, .inl (K 1, 400, .inl (fun _ => 0)))] H := hP
  have hD : va_D A [(o, .inr (12, (.int 0 :: .ref q0 :: .ref q1 :: .ref q2 :: .ref q3 :: .ref q4 :: .int 0 :: .ref q5 :: .int 0 :: .int 0 :: .int 0 :: .null :: .null :: .int 0 :: .int 0 :: .null :: .null :: .null :: .int 0 :: .int 0 :: .int 0 :: .int 0 :: .int 0 :: .int 0 :: .int 0 :: .int 0 :: .null :: .int 0 :: .int 0 :: .null :: .null :: .null :: .null :: .int 0 :: .null :: .null :: .null :: .int 0 :: .int 0 :: .int 0 :: .int 0 :: .int 0 :: .int 0 :: .null :: .null :: .int 0 :: .int 0 :: .int 0 :: []))), (q0, .inl (K 0, 7, .inl (fun _ => 0))), (q1, .inl (K 0, 5714, .inl (fun _ => 0))), (q2, .inl (K 0, 11428, .inl (fun _ => 0))), (q3, .inl (K 2, 2, .inl (fun _ => 0))), (q4, .inl (K 0, 46, .inl (fun _ => 0))), (q5, .inl (K 1, 146, .inl w145)), (q6, .inl (K 1, 400, .inl (fun _ => 0)))] := hD
  refine va_putF (D := D) (ci := 12) (v := .ref q6) (ty := (.array .byte)) (C := RX12) (T := TX12) (N := 48) hx hb hg inC12 tyX12 tyX12_ok nmX12 hown hK hP hD hS 0 rfl rfl 11 (by decide) (hg _ wt5_171) (fun _ h9 => h9) rfl hin rfl (by decide +kernel) rfl rfl (Nat.le_of_ble_eq_true rfl) dX12_init_948 (fun H locs hP hD hS => ?_)
  have hP : va_P D vwCl [(o, .inr (12, (.int 0 :: .ref q0 :: .ref q1 :: .ref q2 :: .ref q3 :: .ref q4 :: .int 0 :: .ref q5 :: .int 0 :: .int 0 :: .int 0 :: .ref q6 :: .null :: .int 0 :: .int 0 :: .null :: .null :: .null :: .int 0 :: .int 0 :: .int 0 :: .int 0 :: .int 0 :: .int 0 :: .int 0 :: .int 0 :: .null :: .int 0 :: .int 0 :: .null :: .null :: .null :: .null :: .int 0 :: .null :: .null :: .null :: .int 0 :: .int 0 :: .int 0 :: .int 0 :: .int 0 :: .int 0 :: .null :: .null :: .int 0 :: .int 0 :: .int 0 :: []))), (q0, .inl (K 0, 7, .inl (fun _ => 0))), (q1, .inl (K 0, 5714, .inl (fun _ => 0))), (q2, .inl (K 0, 11428, .inl (fun _ => 0))), (q3, .inl (K 2, 2, .inl (fun _ => 0))), (q4, .inl (K 0, 46, .inl (fun _ => 0))), (q5, .inl (K 1, 146, .inl w145)), (q6, .inl (K 1, 400, .inl (fun _ => 0)))] H := hP
  have hD : va_D A [(o, .inr (12, (.int 0 :: .ref q0 :: .ref q1 :: .ref q2 :: .ref q3 :: .ref q4 :: .int 0 :: .ref q5 :: .int 0 :: .int 0 :: .int 0 :: .ref q6 :: .null :: .int 0 :: .int 0 :: .null :: .null :: .null :: .int 0 :: .int 0 :: .int 0 :: .int 0 :: .int 0 :: .int 0 :: .int 0 :: .int 0 :: .null :: .int 0 :: .int 0 :: .null :: .null :: .null :: .null :: .int 0 :: .null :: .null :: .null :: .int 0 :: .int 0 :: .int 0 :: .int 0 :: .int 0 :: .int 0 :: .null :: .null :: .int 0 :: .int 0 :: .int 0 :: []))), (q0, .inl (K 0, 7, .inl (fun _ => 0))), (q1, .inl (K 0, 5714, .inl (fun _ => 0))), (q2, .inl (K 0, 11428, .inl (fun _ => 0))), (q3, .inl (K 2, 2, .inl (fun _ => 0))), (q4, .inl (K 0, 46, .inl (fun _ => 0))), (q5, .inl (K 1, 146, .inl w145)), (q6, .inl (K 1, 400, .inl (fun _ => 0)))] := hD
  refine lv_aload_n hx hb dX12_init_951 rfl (lv_at hl 0 rfl) ?_
  refine lv_iconst (v := 5) hx hb dX12_init_952 (by decide) ?_
  refine k_newa (atype := .int) (a0 := (5, .inl (fun _ => 0))) hx hb (hg _ wt1_77) rfl hK hP hD hS hA 0 rfl (fun _ => rfl) (by decide) (by decide +kernel) (by decide) (by decide) (by decide) dX12_init_953 (fun q7 H hP hD hS => ?_)
  have hP : va_P D vwCl [(o, .inr (12, (.int 0 :: .ref q0 :: .ref q1 :: .ref q2 :: .ref q3 :: .ref q4 :: .int 0 :: .ref q5 :: .int 0 :: .int 0 :: .int 0 :: .ref q6 :: .null :: .int 0 :: .int 0 :: .null :: .null :: .null :: .int 0 :: .int 0 :: .int 0 :: .int 0 :: .int 0 :: .int 0 :: .int 0 :: .int 0 :: .null :: .int 0 :: .int 0 :: .null :: .null :: .null :: .null :: .int 0 :: .null :: .null :: .null :: .int 0 :: .int 0 :: .int 0 :: .int 0 :: .int 0 :: .int 0 :: .null :: .null :: .int 0 :: .int 0 :: .int 0 :: []))), (q0, .inl (K 0, 7, .inl (fun _ => 0))), (q1, .inl (K 0, 5714, .inl (fun _ => 0))), (q2, .inl (K 0, 11428, .inl (fun _ => 0))), (q3, .inl (K 2, 2, .inl (fun _ => 0))), (q4, .inl (K 0, 46, .inl (fun _ => 0))), (q5, .inl (K 1, 146, .inl w145)), (q6, .inl (K 1, 400, .inl (fun _ => 0))), (q7, .inl (K 0, 5, .inl (fun _ => 0)))] H := hP
  have hD : va_D A [(o, .inr (12, (.int 0 :: .ref q0 :: .ref q1 :: .ref q2 :: .ref q3 :: .ref q4 :: .int 0 :: .ref q5 :: .int 0 :: .int 0 :: .int 0 :: .ref q6 :: .null :: .int 0 :: .int 0 :: .null :: .null :: .null :: .int 0 :: .int 0 :: .int 0 :: .int 0 :: .int 0 :: .int 0 :: .int 0 :: .int 0 :: .null :: .int 0 :: .int 0 :: .null :: .null :: .null :: .null :: .int 0 :: .null :: .null :: .null :: .int 0 :: .int 0 :: .int 0 :: .int 0 :: .int 0 :: .int 0 :: .null :: .null :: .int 0 :: .int 0 :: .int 0 :: []))), (q0, .inl (K 0, 7, .inl (fun _ => 0))), (q1, .inl (K 0, 5714, .inl (fun _ => 0))), (q2, .inl (K 0, 11428, .inl (fun _ => 0))), (q3, .inl (K 2, 2, .inl (fun _ => 0))), (q4, .inl (K 0, 46, .inl (fun _ => 0))), (q5, .inl (K 1, 146, .inl w145)), (q6, .inl (K 1, 400, .inl (fun _ => 0))), (q7, .inl (K 0, 5, .inl (fun _ => 0)))] := hD
  refine va_putF (D := D) (ci := 12) (v := .ref q7) (ty := (.array .int)) (C := RX12) (T := TX12) (N := 48) hx hb hg inC12 tyX12 tyX12_ok nmX12 hown hK hP hD hS 0 rfl rfl 12 (by decide) (hg _ wt5_172) (fun _ h9 => h9) rfl hin rfl (by decide +kernel) rfl rfl (Nat.le_of_ble_eq_true rfl) dX12_init_955 (fun H locs hP hD hS => ?_)
  have hP : va_P D vwCl [(o, .inr (12, (.int 0 :: .ref q0 :: .ref q1 :: .ref q2 :: .ref q3 :: .ref q4 :: .int 0 :: .ref q5 :: .int 0 :: .int 0 :: .int 0 :: .ref q6 :: .ref q7 :: .int 0 :: .int 0 :: .null :: .null :: .null :: .int 0 :: .int 0 :: .int 0 :: .int 0 :: .int 0 :: .int 0 :: .int 0 :: .int 0 :: .null :: .int 0 :: .int 0 :: .null :: .null :: .null :: .null :: .int 0 :: .null :: .null :: .null :: .int 0 :: .int 0 :: .int 0 :: .int 0 :: .int 0 :: .int 0 :: .null :: .null :: .int 0 :: .int 0 :: .int 0 :: []))), (q0, .inl (K 0, 7, .inl (fun _ => 0))), (q1, .inl (K 0, 5714, .inl (fun _ => 0))), (q2, .inl (K 0, 11428, .inl (fun _ => 0))), (q3, .inl (K 2, 2, .inl (fun _ => 0))), (q4, .inl (K 0, 46, .inl (fun _ => 0))), (q5, .inl (K 1, 146, .inl w145)), (q6, .inl (K 1, 400, .inl (fun _ => 0))), (q7, .inl (K 0, 5, .inl (fun _ => 0)))] H := hP
  have hD : va_D A [(o, .inr (12, (.int 0 :: .ref q0 :: .ref q1 :: .ref q2 :: .ref q3 :: .ref q4 :: .int 0 :: .ref q5 :: .int 0 :: .int 0 :: .int 0 :: .ref q6 :: .ref q7 :: .int 0 :: .int 0 :: .null :: .null :: .null :: .int 0 :: .int 0 :: .int 0 :: .int 0 :: .int 0 :: .int 0 :: .int 0 :: .int 0 :: .null :: .int 0 :: .int 0 :: .null :: .null :: .null :: .null :: .int 0 :: .null :: .null :: .null :: .int 0 :: .int 0 :: .int 0 :: .int 0 :: .int 0 :: .int 0 :: .null :: .null :: .int 0 :: .int 0 :: .int 0 :: []))), (q0, .inl (K 0, 7, .inl (fun _ => 0))), (q1, .inl (K 0, 5714, .inl (fun _ => 0))), (q2, .inl (K 0, 11428, .inl (fun _ => 0))), (q3, .inl (K 2, 2, .inl (fun _ => 0))), (q4, .inl (K 0, 46, .inl (fun _ => 0))), (q5, .inl (K 1, 146, .inl w145)), (q6, .inl (K 1, 400, .inl (fun _ => 0))), (q7, .inl (K 0, 5, .inl (fun _ => 0)))] := hD
  refine lv_aload_n hx hb dX12_init_958 rfl (lv_at hl 0 rfl) ?_
  refine lv_iconst (v := (-1)) hx hb dX12_init_959 (by decide) ?_
  refine va_put (D := D) (ci := 12) (v := .int (-1)) (ty := .int) (C := RX12) (T := TX12) (N := 48) hx hb hg inC12 tyX12 tyX12_ok nmX12 hown hK hP hD hS 0 rfl rfl 14 (by decide) (hg _ wt5_174) (fun _ h9 => h9) rfl (by decide +kernel) rfl rfl (Nat.le_of_ble_eq_true rfl) dX12_init_960 (fun H locs hP hD hS => ?_)
  have hP : va_P D vwCl [(o, .inr (12, (.int 0 :: .ref q0 :: .ref q1 :: .ref q2 :: .ref q3 :: .ref q4 :: .int 0 :: .ref q5 :: .int 0 :: .int 0 :: .int 0 :: .ref q6 :: .ref q7 :: .int 0 :: .int (-1) :: .null :: .null :: .null :: .int 0 :: .int 0 :: .int 0 :: .int 0 :: .int 0 :: .int 0 :: .int 0 :: .int 0 :: .null :: .int 0 :: .int 0 :: .null :: .null :: .null :: .null :: .int 0 :: .null :: .null :: .null :: .int 0 :: .int 0 :: .int 0 :: .int 0 :: .int 0 :: .int 0 :: .null :: .null :: .int 0 :: .int 0 :: .int 0 :: []))), (q0, .inl (K 0, 7, .inl (fun _ => 0))), (q1, .inl (K 0, 5714, .inl (fun _ => 0))), (q2, .inl (K 0, 11428, .inl (fun _ => 0))), (q3, .inl (K 2, 2, .inl (fun _ => 0))), (q4, .inl (K 0, 46, .inl (fun _ => 0))), (q5, .inl (K 1, 146, .inl w145)), (q6, .inl (K 1, 400, .inl (fun _ => 0))), (q7, .inl (K 0, 5, .inl (fun _ => 0)))] H := hP
  have hD : va_D A [(o, .inr (12, (.int 0 :: .ref q0 :: .ref q1 :: .ref q2 :: .ref q3 :: .ref q4 :: .int 0 :: .ref q5 :: .int 0 :: .int 0 :: .int 0 :: .ref q6 :: .ref q7 :: .int 0 :: .int (-1) :: .null :: .null :: .null :: .int 0 :: .int 0 :: .int 0 :: .int 0 :: .int 0 :: .int 0 :: .int 0 :: .int 0 :: .null :: .int 0 :: .int 0 :: .null :: .null :: .null :: .null :: .int 0 :: .null :: .null :: .null :: .int 0 :: .int 0 :: .int 0 :: .int 0 :: .int 0 :: .int 0 :: .null :: .null :: .int 0 :: .int 0 :: .int 0 :: []))), (q0, .inl (K 0, 7, .inl (fun _ => 0))), (q1, .inl (K 0, 5714, .inl (fun _ => 0))), (q2, .inl (K 0, 11428, .inl (fun _ => 0))), (q3, .inl (K 2, 2, .inl (fun _ => 0))), (q4, .inl (K 0, 46, .inl (fun _ => 0))), (q5, .inl (K 1, 146, .inl w145)), (q6, .inl (K 1, 400, .inl (fun _ => 0))), (q7, .inl (K 0, 5, .inl (fun _ => 0)))] := hD
  refine lv_aload_n hx hb dX12_init_963 rfl (lv_at hl 0 rfl) ?_
  refine lv_sipush (v := 401) hx hb dX12_init_964 (by decide) ?_
  refine k_newa (atype := .int) (a0 := (401, .inl (fun _ => 0))) hx hb (hg _ wt1_77) rfl hK hP hD hS hA 0 rfl (fun _ => rfl) (by decide) (by decide +kernel) (by decide) (by decide) (by decide) dX12_init_967 (fun q8 H hP hD hS => ?_)
  have hP : va_P D vwCl [(o, .inr (12, (.int 0 :: .ref q0 :: .ref q1 :: .ref q2 :: .ref q3 :: .ref q4 :: .int 0 :: .ref q5 :: .int 0 :: .int 0 :: .int 0 :: .ref q6 :: .ref q7 :: .int 0 :: .int (-1) :: .null :: .null :: .null :: .int 0 :: .int 0 :: .int 0 :: .int 0 :: .int 0 :: .int 0 :: .int 0 :: .int 0 :: .null :: .int 0 :: .int 0 :: .null :: .null :: .null :: .null :: .int 0 :: .null :: .null :: .null :: .int 0 :: .int 0 :: .int 0 :: .int 0 :: .int 0 :: .int 0 :: .null :: .null :: .int 0 :: .int 0 :: .int 0 :: []))), (q0, .inl (K 0, 7, .inl (fun _ => 0))), (q1, .inl (K 0, 5714, .inl (fun _ => 0))), (q2, .inl (K 0, 11428, .inl (fun _ => 0))), (q3, .inl (K 2, 2, .inl (fun _ => 0))), (q4, .inl (K 0, 46, .inl (fun _ => 0))), (q5, .inl (K 1, 146, .inl w145)), (q6, .inl (K 1, 400, .inl (fun _ => 0))), (q7, .inl (K 0, 5, .inl (fun _ => 0))), (q8, .inl (K 0, 401, .inl (fun _ => 0)))] H := hP
  have hD : va_D A [(o, .inr (12, (.int 0 :: .ref q0 :: .ref q1 :: .ref q2 :: .ref q3 :: .ref q4 :: .int 0 :: .ref q5 :: .int 0 :: .int 0 :: .int 0 :: .ref q6 :: .ref q7 :: .int 0 :: .int (-1) :: .null :: .null :: .null :: .int 0 :: .int 0 :: .int 0 :: .int 0 :: .int 0 :: .int 0 :: .int 0 :: .int 0 :: .null :: .int 0 :: .int 0 :: .null :: .null :: .null :: .null :: .int 0 :: .null :: .null :: .null :: .int 0 :: .int 0 :: .int 0 :: .int 0 :: .int 0 :: .int 0 :: .null :: .null :: .int 0 :: .int 0 :: .int 0 :: []))), (q0, .inl (K 0, 7, .inl (fun _ => 0))), (q1, .inl (K 0, 5714, .inl (fun _ => 0))), (q2, .inl (K 0, 11428, .inl (fun _ => 0))), (q3, .inl (K 2, 2, .inl (fun _ => 0))), (q4, .inl (K 0, 46, .inl (fun _ => 0))), (q5, .inl (K 1, 146, .inl w145)), (q6, .inl (K 1, 400, .inl (fun _ => 0))), (q7, .inl (K 0, 5, .inl (fun _ => 0))), (q8, .inl (K 0, 401, .inl (fun _ => 0)))] := hD
  refine va_putF (D := D) (ci := 12) (v := .ref q8) (ty := (.array .int)) (C := RX12) (T := TX12) (N := 48) hx hb hg inC12 tyX12 tyX12_ok nmX12 hown hK hP hD hS 0 rfl rfl 15 (by decide) (hg _ wt5_175) (fun _ h9 => h9) rfl hin rfl (by decide +kernel) rfl rfl (Nat.le_of_ble_eq_true rfl) dX12_init_969 (fun H locs hP hD hS => ?_)
  have hP : va_P D vwCl [(o, .inr (12, (.int 0 :: .ref q0 :: .ref q1 :: .ref q2 :: .ref q3 :: .ref q4 :: .int 0 :: .ref q5 :: .int 0 :: .int 0 :: .int 0 :: .ref q6 :: .ref q7 :: .int 0 :: .int (-1) :: .ref q8 :: .null :: .null :: .int 0 :: .int 0 :: .int 0 :: .int 0 :: .int 0 :: .int 0 :: .int 0 :: .int 0 :: .null :: .int 0 :: .int 0 :: .null :: .null :: .null :: .null :: .int 0 :: .null :: .null :: .null :: .int 0 :: .int 0 :: .int 0 :: .int 0 :: .int 0 :: .int 0 :: .null :: .null :: .int 0 :: .int 0 :: .int 0 :: []))), (q0, .inl (K 0, 7, .inl (fun _ => 0))), (q1, .inl (K 0, 5714, .inl (fun _ => 0))), (q2, .inl (K 0, 11428, .inl (fun _ => 0))), (q3, .inl (K 2, 2, .inl (fun _ => 0))), (q4, .inl (K 0, 46, .inl (fun _ => 0))), (q5, .inl (K 1, 146, .inl w145)), (q6, .inl (K 1, 400, .inl (fun _ => 0))), (q7, .inl (K 0, 5, .inl (fun _ => 0))), (q8, .inl (K 0, 401, .inl (fun _ => 0)))] H := hP
  have hD : va_D A [(o, .inr (12, (.int 0 :: .ref q0 :: .ref q1 :: .ref q2 :: .ref q3 :: .ref q4 :: .int 0 :: .ref q5 :: .int 0 :: .int 0 :: .int 0 :: .ref q6 :: .ref q7 :: .int 0 :: .int (-1) :: .ref q8 :: .null :: .null :: .int 0 :: .int 0 :: .int 0 :: .int 0 :: .int 0 :: .int 0 :: .int 0 :: .int 0 :: .null :: .int 0 :: .int 0 :: .null :: .null :: .null :: .null :: .int 0 :: .null :: .null :: .null :: .int 0 :: .int 0 :: .int 0 :: .int 0 :: .int 0 :: .int 0 :: .null :: .null :: .int 0 :: .int 0 :: .int 0 :: []))), (q0, .inl (K 0, 7, .inl (fun _ => 0))), (q1, .inl (K 0, 5714, .inl (fun _ => 0))), (q2, .inl (K 0, 11428, .inl (fun _ => 0))), (q3, .inl (K 2, 2, .inl (fun _ => 0))), (q4, .inl (K 0, 46, .inl (fun _ => 0))), (q5, .inl (K 1, 146, .inl w145)), (q6, .inl (K 1, 400, .inl (fun _ => 0))), (q7, .inl (K 0, 5, .inl (fun _ => 0))), (q8, .inl (K 0, 401, .inl (fun _ => 0)))] := hD
  refine lv_aload_n hx hb dX12_init_972 rfl (lv_at hl 0 rfl) ?_
  refine lv_sipush (v := 401) hx hb dX12_init_973 (by decide) ?_
  refine k_newa (atype := .int) (a0 := (401, .inl (fun _ => 0))) hx hb (hg _ wt1_77) rfl hK hP hD hS hA 0 rfl (fun _ => rfl) (by decide) (by decide +kernel) (by decide) (by decide) (by decide) dX12_init_976 (fun q9 H hP hD hS => ?_)
  have hP : va_P D vwCl [(o, .inr (12, (.int 0 :: .ref q0 :: .ref q1 :: .ref q2 :: .ref q3 :: .ref q4 :: .int 0 :: .ref q5 :: .int 0 :: .int 0 :: .int 0 :: .ref q6 :: .ref q7 :: .int 0 :: .int (-1) :: .ref q8 :: .null :: .null :: .int 0 :: .int 0 :: .int 0 :: .int 0 :: .int 0 :: .int 0 :: .int 0 :: .int 0 :: .null :: .int 0 :: .int 0 :: .null :: .null :: .null :: .null :: .int 0 :: .null :: .null :: .null :: .int 0 :: .int 0 :: .int 0 :: .int 0 :: .int 0 :: .int 0 :: .null :: .null :: .int 0 :: .int 0 :: .int 0 :: []))), (q0, .inl (K 0, 7, .inl (fun _ => 0))), (q1, .inl (K 0, 5714, .inl (fun _ => 0))), (q2, .inl (K 0, 11428, .inl (fun _ => 0))), (q3, .inl (K 2, 2, .inl (fun _ => 0))), (q4, .inl (K 0, 46, .inl (fun _ => 0))), (q5, .inl (K 1, 146, .inl w145)), (q6, .inl (K 1, 400, .inl (fun _ => 0))), (q7, .inl (K 0, 5, .inl (fun _ => 0))), (q8, .inl (K 0, 401, .inl (fun _ => 0))), (q9, .inl (K 0, 401, .inl (fun _ => 0)))] H := hP
  have hD : va_D A [(o, .inr (12, (.int 0 :: .ref q0 :: .ref q1 :: .ref q2 :: .ref q3 :: .ref q4 :: .int 0 :: .ref q5 :: .int 0 :: .int 0 :: .int 0 :: .ref q6 :: .ref q7 :: .int 0 :: .int (-1) :: .ref q8 :: .null :: .null :: .int 0 :: .int 0 :: .int 0 :: .int 0 :: .int 0 :: .int 0 :: .int 0 :: .int 0 :: .null :: .int 0 :: .int 0 :: .null :: .null :: .null :: .null :: .int 0 :: .null :: .null :: .null :: .int 0 :: .int 0 :: .int 0 :: .int 0 :: .int 0 :: .int 0 :: .null :: .null :: .int 0 :: .int 0 :: .int 0 :: []))), (q0, .inl (K 0, 7, .inl (fun _ => 0))), (q1, .inl (K 0, 5714, .inl (fun _ => 0))), (q2, .inl (K 0, 11428, .inl (fun _ => 0))), (q3, .inl (K 2, 2, .inl (fun _ => 0))), (q4, .inl (K 0, 46, .inl (fun _ => 0))), (q5, .inl (K 1, 146, .inl w145)), (q6, .inl (K 1, 400, .inl (fun _ => 0))), (q7, .inl (K 0, 5, .inl (fun _ => 0))), (q8, .inl (K 0, 401, .inl (fun _ => 0))), (q9, .inl (K 0, 401, .inl (fun _ => 0)))] := hD
  refine va_putF (D := D) (ci := 12) (v := .ref q9) (ty := (.array .int)) (C := RX12) (T := TX12) (N := 48) hx hb hg inC12 tyX12 tyX12_ok nmX12 hown hK hP hD hS 0 rfl rfl 16 (by decide) (hg _ wt5_176) (fun _ h9 => h9) rfl hin rfl (by decide +kernel) rfl rfl (Nat.le_of_ble_eq_true rfl) dX12_init_978 (fun H locs hP hD hS => ?_)
  have hP : va_P D vwCl [(o, .inr (12, (.int 0 :: .ref q0 :: .ref q1 :: .ref q2 :: .ref q3 :: .ref q4 :: .int 0 :: .ref q5 :: .int 0 :: .int 0 :: .int 0 :: .ref q6 :: .ref q7 :: .int 0 :: .int (-1) :: .ref q8 :: .ref q9 :: .null :: .int 0 :: .int 0 :: .int 0 :: .int 0 :: .int 0 :: .int 0 :: .int 0 :: .int 0 :: .null :: .int 0 :: .int 0 :: .null :: .null :: .null :: .null :: .int 0 :: .null :: .null :: .null :: .int 0 :: .int 0 :: .int 0 :: .int 0 :: .int 0 :: .int 0 :: .null :: .null :: .int 0 :: .int 0 :: .int 0 :: []))), (q0, .inl (K 0, 7, .inl (fun _ => 0))), (q1, .inl (K 0, 5714, .inl (fun _ => 0))), (q2, .inl (K 0, 11428, .inl (fun _ => 0))), (q3, .inl (K 2, 2, .inl (fun _ => 0))), (q4, .inl (K 0, 46, .inl (fun _ => 0))), (q5, .inl (K 1, 146, .inl w145)), (q6, .inl (K 1, 400, .inl (fun _ => 0))), (q7, .inl (K 0, 5, .inl (fun _ => 0))), (q8, .inl (K 0, 401, .inl (fun _ => 0))), (q9, .inl (K 0, 401, .inl (fun _ => 0)))] H := hP
  have hD : va_D A [(o, .inr (12, (.int 0 :: .ref q0 :: .ref q1 :: .ref q2 :: .ref q3 :: .ref q4 :: .int 0 :: .ref q5 :: .int 0 :: .int 0 :: .int 0 :: .ref q6 :: .ref q7 :: .int 0 :: .int (-1) :: .ref q8 :: .ref q9 :: .null :: .int 0 :: .int 0 :: .int 0 :: .int 0 :: .int 0 :: .int 0 :: .int 0 :: .int 0 :: .null :: .int 0 :: .int 0 :: .null :: .null :: .null :: .null :: .int 0 :: .null :: .null :: .null :: .int 0 :: .int 0 :: .int 0 :: .int 0 :: .int 0 :: .int 0 :: .null :: .null :: .int 0 :: .int 0 :: .int 0 :: []))), (q0, .inl (K 0, 7, .inl (fun _ => 0))), (q1, .inl (K 0, 5714, .inl (fun _ => 0))), (q2, .inl (K 0, 11428, .inl (fun _ => 0))), (q3, .inl (K 2, 2, .inl (fun _ => 0))), (q4, .inl (K 0, 46, .inl (fun _ => 0))), (q5, .inl (K 1, 146, .inl w145)), (q6, .inl (K 1, 400, .inl (fun _ => 0))), (q7, .inl (K 0, 5, .inl (fun _ => 0))), (q8, .inl (K 0, 401, .inl (fun _ => 0))), (q9, .inl (K 0, 401, .inl (fun _ => 0)))] := hD
  refine lv_aload_n hx hb dX12_init_981 rfl (lv_at hl 0 rfl) ?_
  refine lv_sipush (v := 401) hx hb dX12_init_982 (by decide) ?_
  refine k_newa (atype := .int) (a0 := (401, .inl (fun _ => 0))) hx hb (hg _ wt1_77) rfl hK hP hD hS hA 0 rfl (fun _ => rfl) (by decide) (by decide +kernel) (by decide) (by decide) (by decide) dX12_init_985 (fun q10 H hP hD hS => ?_)
  have hP : va_P D vwCl [(o, .inr (12, (.int 0 :: .ref q0 :: .ref q1 :: .ref q2 :: .ref q3 :: .ref q4 :: .int 0 :: .ref q5 :: .int 0 :: .int 0 :: .int 0 :: .ref q6 :: .ref q7 :: .int 0 :: .int (-1) :: .ref q8 :: .ref q9 :: .null :: .int 0 :: .int 0 :: .int 0 :: .int 0 :: .int 0 :: .int 0 :: .int 0 :: .int 0 :: .null :: .int 0 :: .int 0 :: .null :: .null :: .null :: .null :: .int 0 :: .null :: .null :: .null :: .int 0 :: .int 0 :: .int 0 :: .int 0 :: .int 0 :: .int 0 :: .null :: .null :: .int 0 :: .int 0 :: .int 0 :: []))), (q0, .inl (K 0, 7, .inl (fun _ => 0))), (q1, .inl (K 0, 5714, .inl (fun _ => 0))), (q2, .inl (K 0, 11428, .inl (fun _ => 0))), (q3, .inl (K 2, 2, .inl (fun _ => 0))), (q4, .inl (K 0, 46, .inl (fun _ => 0))), (q5, .inl (K 1, 146, .inl w145)), (q6, .inl (K 1, 400, .inl (fun _ => 0))), (q7, .inl (K 0, 5, .inl (fun _ => 0))), (q8, .inl (K 0, 401, .inl (fun _ => 0))), (q9, .inl (K 0, 401, .inl (fun _ => 0))), (q10, .inl (K 0, 401, .inl (fun _ => 0)))] H := hP
  have hD : va_D A [(o, .inr (12, (.int 0 :: .ref q0 :: .ref q1 :: .ref q2 :: .ref q3 :: .ref q4 :: .int 0 :: .ref q5 :: .int 0 :: .int 0 :: .int 0 :: .ref q6 :: .ref q7 :: .int 0 :: .int (-1) :: .ref q8 :: .ref q9 :: .null :: .int 0 :: .int 0 :: .int 0 :: .int 0 :: .int 0 :: .int 0 :: .int 0 :: .int 0 :: .null :: .int 0 :: .int 0 :: .null :: .null :: .null :: .null :: .int 0 :: .null :: .null :: .null :: .int 0 :: .int 0 :: .int 0 :: .int 0 :: .int 0 :: .int 0 :: .null :: .null :: .int 0 :: .int 0 :: .int 0 :: []))), (q0, .inl (K 0, 7, .inl (fun _ => 0))), (q1, .inl (K 0, 5714, .inl (fun _ => 0))), (q2, .inl (K 0, 11428, .inl (fun _ => 0))), (q3, .inl (K 2, 2, .inl (fun _ => 0))), (q4, .inl (K 0, 46, .inl (fun _ => 0))), (q5, .inl (K 1, 146, .inl w145)), (q6, .inl (K 1, 400, .inl (fun _ => 0))), (q7, .inl (K 0, 5, .inl (fun _ => 0))), (q8, .inl (K 0, 401, .inl (fun _ => 0))), (q9, .inl (K 0, 401, .inl (fun _ => 0))), (q10, .inl (K 0, 401, .inl (fun _ => 0)))] := hD
  refine va_putF (D := D) (ci := 12) (v := .ref q10) (ty := (.array .int)) (C := RX12) (T := TX12) (N := 48) hx hb hg inC12 tyX12 tyX12_ok nmX12 hown hK hP hD hS 0 rfl rfl 17 (by decide) (hg _ wt5_177) (fun _ h9 => h9) rfl hin rfl (by decide +kernel) rfl rfl (Nat.le_of_ble_eq_true rfl) dX12_init_987 (fun H locs hP hD hS => ?_)
  have hP : va_P D vwCl [(o, .inr (12, (.int 0 :: .ref q0 :: .ref q1 :: .ref q2 :: .ref q3 :: .ref q4 :: .int 0 :: .ref q5 :: .int 0 :: .int 0 :: .int 0 :: .ref q6 :: .ref q7 :: .int 0 :: .int (-1) :: .ref q8 :: .ref q9 :: .ref q10 :: .int 0 :: .int 0 :: .int 0 :: .int 0 :: .int 0 :: .int 0 :: .int 0 :: .int 0 :: .null :: .int 0 :: .int 0 :: .null :: .null :: .null :: .null :: .int 0 :: .null :: .null :: .null :: .int 0 :: .int 0 :: .int 0 :: .int 0 :: .int 0 :: .int 0 :: .null :: .null :: .int 0 :: .int 0 :: .int 0 :: []))), (q0, .inl (K 0, 7, .inl (fun _ => 0))), (q1, .inl (K 0, 5714, .inl (fun _ => 0))), (q2, .inl (K 0, 11428, .inl (fun _ => 0))), (q3, .inl (K 2, 2, .inl (fun _ => 0))), (q4, .inl (K 0, 46, .inl (fun _ => 0))), (q5, .inl (K 1, 146, .inl w145)), (q6, .inl (K 1, 400, .inl (fun _ => 0))), (q7, .inl (K 0, 5, .inl (fun _ => 0))), (q8, .inl (K 0, 401, .inl (fun _ => 0))), (q9, .inl (K 0, 401, .inl (fun _ => 0))), (q10, .inl (K 0, 401, .inl (fun _ => 0)))] H := hP
  have hD : va_D A [(o, .inr (12, (.int 0 :: .ref q0 :: .ref q1 :: .ref q2 :: .ref q3 :: .ref q4 :: .int 0 :: .ref q5 :: .int 0 :: .int 0 :: .int 0 :: .ref q6 :: .ref q7 :: .int 0 :: .int (-1) :: .ref q8 :: .ref q9 :: .ref q10 :: .int 0 :: .int 0 :: .int 0 :: .int 0 :: .int 0 :: .int 0 :: .int 0 :: .int 0 :: .null :: .int 0 :: .int 0 :: .null :: .null :: .null :: .null :: .int 0 :: .null :: .null :: .null :: .int 0 :: .int 0 :: .int 0 :: .int 0 :: .int 0 :: .int 0 :: .null :: .null :: .int 0 :: .int 0 :: .int 0 :: []))), (q0, .inl (K 0, 7, .inl (fun _ => 0))), (q1, .inl (K 0, 5714, .inl (fun _ => 0))), (q2, .inl (K 0, 11428, .inl (fun _ => 0))), (q3, .inl (K 2, 2, .inl (fun _ => 0))), (q4, .inl (K 0, 46, .inl (fun _ => 0))), (q5, .inl (K 1, 146, .inl w145)), (q6, .inl (K 1, 400, .inl (fun _ => 0))), (q7, .inl (K 0, 5, .inl (fun _ => 0))), (q8, .inl (K 0, 401, .inl (fun _ => 0))), (q9, .inl (K 0, 401, .inl (fun _ => 0))), (q10, .inl (K 0, 401, .inl (fun _ => 0)))] := hD
  refine lv_aload_n hx hb dX12_init_990 rfl (lv_at hl 0 rfl) ?_
  refine lv_bipush (v := 10) hx hb dX12_init_991 (by decide) ?_
  refine k_newa (atype := .int) (a0 := (10, .inl (fun _ => 0))) hx hb (hg _ wt1_77) rfl hK hP hD hS hA 0 rfl (fun _ => rfl) (by decide) (by decide +kernel) (by decide) (by decide) (by decide) dX12_init_993 (fun q11 H hP hD hS => ?_)
  have hP : va_P D vwCl [(o, .inr (12, (.int 0 :: .ref q0 :: .ref q1 :: .ref q2 :: .ref q3 :: .ref q4 :: .int 0 :: .ref q5 :: .int 0 :: .int 0 :: .int 0 :: .ref q6 :: .ref q7 :: .int 0 :: .int (-1) :: .ref q8 :: .ref q9 :: .ref q10 :: .int 0 :: .int 0 :: .int 0 :: .int 0 :: .int 0 :: .int 0 :: .int 0 :: .int 0 :: .null :: .int 0 :: .int 0 :: .null :: .null :: .null :: .null :: .int 0 :: .null :: .null :: .null :: .int 0 :: .int 0 :: .int 0 :: .int 0 :: .int 0 :: .int 0 :: .null :: .null :: .int 0 :: .int 0 :: .int 0 :: []))), (q0, .inl (K 0, 7, .inl (fun _ => 0))), (q1, .inl (K 0, 5714, .inl (fun _ => 0))), (q2, .inl (K 0, 11428, .inl (fun _ => 0))), (q3, .inl (K 2, 2, .inl (fun _ => 0))), (q4, .inl (K 0, 46, .inl (fun _ => 0))), (q5, .inl (K 1, 146, .inl w145)), (q6, .inl (K 1, 400, .inl (fun _ => 0))), (q7, .inl (K 0, 5, .inl (fun _ => 0))), (q8, .inl (K 0, 401, .inl (fun _ => 0))), (q9, .inl (K 0, 401, .inl (fun _ => 0))), (q10, .inl (K 0, 401, .inl (fun _ => 0))), (q11, .inl (K 0, 10, .inl (fun _ => 0)))] H := hP
  have hD : va_D A [(o, .inr (12, (.int 0 :: .ref q0 :: .ref q1 :: .ref q2 :: .ref q3 :: .ref q4 :: .int 0 :: .ref q5 :: .int 0 :: .int 0 :: .int 0 :: .ref q6 :: .ref q7 :: .int 0 :: .int (-1) :: .ref q8 :: .ref q9 :: .ref q10 :: .int 0 :: .int 0 :: .int 0 :: .int 0 :: .int 0 :: .int 0 :: .int 0 :: .int 0 :: .null :: .int 0 :: .int 0 :: .null :: .null :: .null :: .null :: .int 0 :: .null :: .null :: .null :: .int 0 :: .int 0 :: .int 0 :: .int 0 :: .int 0 :: .int 0 :: .null :: .null :: .int 0 :: .int 0 :: .int 0 :: []))), (q0, .inl (K 0, 7, .inl (fun _ => 0))), (q1, .inl (K 0, 5714, .inl (fun _ => 0))), (q2, .inl (K 0, 11428, .inl (fun _ => 0))), (q3, .inl (K 2, 2, .inl (fun _ => 0))), (q4, .inl (K 0, 46, .inl (fun _ => 0))), (q5, .inl (K 1, 146, .inl w145)), (q6, .inl (K 1, 400, .inl (fun _ => 0))), (q7, .inl (K 0, 5, .inl (fun _ => 0))), (q8, .inl (K 0, 401, .inl (fun _ => 0))), (q9, .inl (K 0, 401, .inl (fun _ => 0))), (q10, .inl (K 0, 401, .inl (fun _ => 0))), (q11, .inl (K 0, 10, .inl (fun _ => 0)))] := hD
  refine va_putF (D := D) (ci := 12) (v := .ref q11) (ty := (.array .int)) (C := RX12) (T := TX12) (N := 48) hx hb hg inC12 tyX12 tyX12_ok nmX12 hown hK hP hD hS 0 rfl rfl 26 (by decide) (hg _ wt5_186) (fun _ h9 => h9) rfl hin rfl (by decide +kernel) rfl rfl (Nat.le_of_ble_eq_true rfl) dX12_init_995 (fun H locs hP hD hS => ?_)
  have hP : va_P D vwCl [(o, .inr (12, (.int 0 :: .ref q0 :: .ref q1 :: .ref q2 :: .ref q3 :: .ref q4 :: .int 0 :: .ref q5 :: .int 0 :: .int 0 :: .int 0 :: .ref q6 :: .ref q7 :: .int 0 :: .int (-1) :: .ref q8 :: .ref q9 :: .ref q10 :: .int 0 :: .int 0 :: .int 0 :: .int 0 :: .int 0 :: .int 0 :: .int 0 :: .int 0 :: .ref q11 :: .int 0 :: .int 0 :: .null :: .null :: .null :: .null :: .int 0 :: .null :: .null :: .null :: .int 0 :: .int 0 :: .int 0 :: .int 0 :: .int 0 :: .int 0 :: .null :: .null :: .int 0 :: .int 0 :: .int 0 :: []))), (q0, .inl (K 0, 7, .inl (fun _ => 0))), (q1, .inl (K 0, 5714, .inl (fun _ => 0))), (q2, .inl (K 0, 11428, .inl (fun _ => 0))), (q3, .inl (K 2, 2, .inl (fun _ => 0))), (q4, .inl (K 0, 46, .inl (fun _ => 0))), (q5, .inl (K 1, 146, .inl w145)), (q6, .inl (K 1, 400, .inl (fun _ => 0))), (q7, .inl (K 0, 5, .inl (fun _ => 0))), (q8, .inl (K 0, 401, .inl (fun _ => 0))), (q9, .inl (K 0, 401, .inl (fun _ => 0))), (q10, .inl (K 0, 401, .inl (fun _ => 0))), (q11, .inl (K 0, 10, .inl (fun _ => 0)))] H := hP
  have hD : va_D A [(o, .inr (12, (.int 0 :: .ref q0 :: .ref q1 :: .ref q2 :: .ref q3 :: .ref q4 :: .int 0 :: .ref q5 :: .int 0 :: .int 0 :: .int 0 :: .ref q6 :: .ref q7 :: .int 0 :: .int (-1) :: .ref q8 :: .ref q9 :: .ref q10 :: .int 0 :: .int 0 :: .int 0 :: .int 0 :: .int 0 :: .int 0 :: .int 0 :: .int 0 :: .ref q11 :: .int 0 :: .int 0 :: .null :: .null :: .null :: .null :: .int 0 :: .null :: .null :: .null :: .int 0 :: .int 0 :: .int 0 :: .int 0 :: .int 0 :: .int 0 :: .null :: .null :: .int 0 :: .int 0 :: .int 0 :: []))), (q0, .inl (K 0, 7, .inl (fun _ => 0))), (q1, .inl (K 0, 5714, .inl (fun _ => 0))), (q2, .inl (K 0, 11428, .inl (fun _ => 0))), (q3, .inl (K 2, 2, .inl (fun _ => 0))), (q4, .inl (K 0, 46, .inl (fun _ => 0))), (q5, .inl (K 1, 146, .inl w145)), (q6, .inl (K 1, 400, .inl (fun _ => 0))), (q7, .inl (K 0, 5, .inl (fun _ => 0))), (q8, .inl (K 0, 401, .inl (fun _ => 0))), (q9, .inl (K 0, 401, .inl (fun _ => 0))), (q10, .inl (K 0, 401, .inl (fun _ => 0))), (q11, .inl (K 0, 10, .inl (fun _ => 0)))] := hD
  refine lv_aload_n hx hb dX12_init_998 rfl (lv_at hl 0 rfl) ?_
  refine lv_bipush (v := 6) hx hb dX12_init_999 (by decide) ?_
  refine k_newa (atype := .int) (a0 := (6, .inl (fun _ => 0))) hx hb (hg _ wt1_77) rfl hK hP hD hS hA 0 rfl (fun _ => rfl) (by decide) (by decide +kernel) (by decide) (by decide) (by decide) dX12_init_1001 (fun q12 H hP hD hS => ?_)
  have hP : va_P D vwCl [(o, .inr (12, (.int 0 :: .ref q0 :: .ref q1 :: .ref q2 :: .ref q3 :: .ref q4 :: .int 0 :: .ref q5 :: .int 0 :: .int 0 :: .int 0 :: .ref q6 :: .ref q7 :: .int 0 :: .int (-1) :: .ref q8 :: .ref q9 :: .ref q10 :: .int 0 :: .int 0 :: .int 0 :: .int 0 :: .int 0 :: .int 0 :: .int 0 :: .int 0 :: .ref q11 :: .int 0 :: .int 0 :: .null :: .null :: .null :: .null :: .int 0 :: .null :: .null :: .null :: .int 0 :: .int 0 :: .int 0 :: .int 0 :: .int 0 :: .int 0 :: .null :: .null :: .int 0 :: .int 0 :: .int 0 :: []))), (q0, .inl (K 0, 7, .inl (fun _ => 0))), (q1, .inl (K 0, 5714, .inl (fun _ => 0))), (q2, .inl (K 0, 11428, .inl (fun _ => 0))), (q3, .inl (K 2, 2, .inl (fun _ => 0))), (q4, .inl (K 0, 46, .inl (fun _ => 0))), (q5, .inl (K 1, 146, .inl w145)), (q6, .inl (K 1, 400, .inl (fun _ => 0))), (q7, .inl (K 0, 5, .inl (fun _ => 0))), (q8, .inl (K 0, 401, .inl (fun _ => 0))), (q9, .inl (K 0, 401, .inl (fun _ => 0))), (q10, .inl (K 0, 401, .inl (fun _ => 0))), (q11, .inl (K 0, 10, .inl (fun _ => 0))), (q12, .inl (K 0, 6, .inl (fun _ => 0)))] H := hP
  have hD : va_D A [(o, .inr (12, (.int 0 :: .ref q0 :: .ref q1 :: .ref q2 :: .ref q3 :: .ref q4 :: .int 0 :: .ref q5 :: .int 0 :: .int 0 :: .int 0 :: .ref q6 :: .ref q7 :: .int 0 :: .int (-1) :: .ref q8 :: .ref q9 :: .ref q10 :: .int 0 :: .int 0 :: .int 0 :: .int 0 :: .int 0 :: .int 0 :: .int 0 :: .int 0 :: .ref q11 :: .int 0 :: .int 0 :: .null :: .null :: .null :: .null :: .int 0 :: .null :: .null :: .null :: .int 0 :: .int 0 :: .int 0 :: .int 0 :: .int 0 :: .int 0 :: .null :: .null :: .int 0 :: .int 0 :: .int 0 :: []))), (q0, .inl (K 0, 7, .inl (fun _ => 0))), (q1, .inl (K 0, 5714, .inl (fun _ => 0))), (q2, .inl (K 0, 11428, .inl (fun _ => 0))), (q3, .inl (K 2, 2, .inl (fun _ => 0))), (q4, .inl (K 0, 46, .inl (fun _ => 0))), (q5, .inl (K 1, 146, .inl w145)), (q6, .inl (K 1, 400, .inl (fun _ => 0))), (q7, .inl (K 0, 5, .inl (fun _ => 0))), (q8, .inl (K 0, 401, .inl (fun _ => 0))), (q9, .inl (K 0, 401, .inl (fun _ => 0))), (q10, .inl (K 0, 401, .inl (fun _ => 0))), (q11, .inl (K 0, 10, .inl (fun _ => 0))), (q12, .inl (K 0, 6, .inl (fun _ => 0)))] := hD
  refine va_putF (D := D) (ci := 12) (v := .ref q12) (ty := (.array .int)) (C := RX12) (T := TX12) (N := 48) hx hb hg inC12 tyX12 tyX12_ok nmX12 hown hK hP hD hS 0 rfl rfl 29 (by decide) (hg _ wt5_189) (fun _ h9 => h9) rfl hin rfl (by decide +kernel) rfl rfl (Nat.le_of_ble_eq_true rfl) dX12_init_1003 (fun H locs hP hD hS => ?_)
  have hP : va_P D vwCl [(o, .inr (12, (.int 0 :: .ref q0 :: .ref q1 :: .ref q2 :: .ref q3 :: .ref q4 :: .int 0 :: .ref q5 :: .int 0 :: .int 0 :: .int 0 :: .ref q6 :: .ref q7 :: .int 0 :: .int (-1) :: .ref q8 :: .ref q9 :: .ref q10 :: .int 0 :: .int 0 :: .int 0 :: .int 0 :: .int 0 :: .int 0 :: .int 0 :: .int 0 :: .ref q11 :: .int 0 :: .int 0 :: .ref q12 :: .null :: .null :: .null :: .int 0 :: .null :: .null :: .null :: .int 0 :: .int 0 :: .int 0 :: .int 0 :: .int 0 :: .int 0 :: .null :: .null :: .int 0 :: .int 0 :: .int 0 :: []))), (q0, .inl (K 0, 7, .inl (fun _ => 0))), (q1, .inl (K 0, 5714, .inl (fun _ => 0))), (q2, .inl (K 0, 11428, .inl (fun _ => 0))), (q3, .inl (K 2, 2, .inl (fun _ => 0))), (q4, .inl (K 0, 46, .inl (fun _ => 0))), (q5, .inl (K 1, 146, .inl w145)), (q6, .inl (K 1, 400, .inl (fun _ => 0))), (q7, .inl (K 0, 5, .inl (fun _ => 0))), (q8, .inl (K 0, 401, .inl (fun _ => 0))), (q9, .inl (K 0, 401, .inl (fun _ => 0))), (q10, .inl (K 0, 401, .inl (fun _ => 0))), (q11, .inl (K 0, 10, .inl (fun _ => 0))), (q12, .inl (K 0, 6, .inl (fun _ => 0)))] H := hP
  have hD : va_D A [(o, .inr (12, (.int 0 :: .ref q0 :: .ref q1 :: .ref q2 :: .ref q3 :: .ref q4 :: .int 0 :: .ref q5 :: .int 0 :: .int 0 :: .int 0 :: .ref q6 :: .ref q7 :: .int 0 :: .int (-1) :: .ref q8 :: .ref q9 :: .ref q10 :: .int 0 :: .int 0 :: .int 0 :: .int 0 :: .int 0 :: .int 0 :: .int 0 :: .int 0 :: .ref q11 :: .int 0 :: .int 0 :: .ref q12 :: .null :: .null :: .null :: .int 0 :: .null :: .null :: .null :: .int 0 :: .int 0 :: .int 0 :: .int 0 :: .int 0 :: .int 0 :: .null :: .null :: .int 0 :: .int 0 :: .int 0 :: []))), (q0, .inl (K 0, 7, .inl (fun _ => 0))), (q1, .inl (K 0, 5714, .inl (fun _ => 0))), (q2, .inl (K 0, 11428, .inl (fun _ => 0))), (q3, .inl (K 2, 2, .inl (fun _ => 0))), (q4, .inl (K 0, 46, .inl (fun _ => 0))), (q5, .inl (K 1, 146, .inl w145)), (q6, .inl (K 1, 400, .inl (fun _ => 0))), (q7, .inl (K 0, 5, .inl (fun _ => 0))), (q8, .inl (K 0, 401, .inl (fun _ => 0))), (q9, .inl (K 0, 401, .inl (fun _ => 0))), (q10, .inl (K 0, 401, .inl (fun _ => 0))), (q11, .inl (K 0, 10, .inl (fun _ => 0))), (q12, .inl (K 0, 6, .inl (fun _ => 0)))] := hD
  refine lv_aload_n hx hb dX12_init_1006 rfl (lv_at hl 0 rfl) ?_
  refine lv_bipush (v := 6) hx hb dX12_init_1007 (by decide) ?_
  refine k_newa (atype := .int) (a0 := (6, .inl (fun _ => 0))) hx hb (hg _ wt1_77) rfl hK hP hD hS hA 0 rfl (fun _ => rfl) (by decide) (by decide +kernel) (by decide) (by decide) (by decide) dX12_init_1009 (fun q13 H hP hD hS => ?_)
  have hP : va_P D vwCl [(o, .inr (12, (.int 0 :: .ref q0 :: .ref q1 :: .ref q2 :: .ref q3 :: .ref q4 :: .int 0 :: .ref q5 :: .int 0 :: .int 0 :: .int 0 :: .ref q6 :: .ref q7 :: .int 0 :: .int (-1) :: .ref q8 :: .ref q9 :: .ref q10 :: .int 0 :: .int 0 :: .int 0 :: .int 0 :: .int 0 :: .int 0 :: .int 0 :: .int 0 :: .ref q11 :: .int 0 :: .int 0 :: .ref q12 :: .null :: .null :: .null :: .int 0 :: .null :: .null :: .null :: .int 0 :: .int 0 :: .int 0 :: .int 0 :: .int 0 :: .int 0 :: .null :: .null :: .int 0 :: .int 0 :: .int 0 :: []))), (q0, .inl (K 0, 7, .inl (fun _ => 0))), (q1, .inl (K 0, 5714, .inl (fun _ => 0))), (q2, .inl (K 0, 11428, .inl (fun _ => 0))), (q3, .inl (K 2, 2, .inl (fun _ => 0))), (q4, .inl (K 0, 46, .inl (fun _ => 0))), (q5, .inl (K 1, 146, .inl w145)), (q6, .inl (K 1, 400, .inl (fun _ => 0))), (q7, .inl (K 0, 5, .inl (fun _ => 0))), (q8, .inl (K 0, 401, .inl (fun _ => 0))), (q9, .inl (K 0, 401, .inl (fun _ => 0))), (q10, .inl (K 0, 401, .inl (fun _ => 0))), (q11, .inl (K 0, 10, .inl (fun _ => 0))), (q12, .inl (K 0, 6, .inl (fun _ => 0))), (q13, .inl (K 0, 6, .inl (fun _ => 0)))] H := hP
  have hD : va_D A [(o, .inr (12, (.int 0 :: .ref q0 :: .ref q1 :: .ref q2 :: .ref q3 :: .ref q4 :: .int 0 :: .ref q5 :: .int 0 :: .int 0 :: .int 0 :: .ref q6 :: .ref q7 :: .int 0 :: .int (-1) :: .ref q8 :: .ref q9 :: .ref q10 :: .int 0 :: .int 0 :: .int 0 :: .int 0 :: .int 0 :: .int 0 :: .int 0 :: .int 0 :: .ref q11 :: .int 0 :: .int 0 :: .ref q12 :: .null :: .null :: .null :: .int 0 :: .null :: .null :: .null :: .int 0 :: .int 0 :: .int 0 :: .int 0 :: .int 0 :: .int 0 :: .null :: .null :: .int 0 :: .int 0 :: .int 0 :: []))), (q0, .inl (K 0, 7, .inl (fun _ => 0))), (q1, .inl (K 0, 5714, .inl (fun _ => 0))), (q2, .inl (K 0, 11428, .inl (fun _ => 0))), (q3, .inl (K 2, 2, .inl (fun _ => 0))), (q4, .inl (K 0, 46, .inl (fun _ => 0))), (q5, .inl (K 1, 146, .inl w145)), (q6, .inl (K 1, 400, .inl (fun _ => 0))), (q7, .inl (K 0, 5, .inl (fun _ => 0))), (q8, .inl (K 0, 401, .inl (fun _ => 0))), (q9, .inl (K 0, 401, .inl (fun _ => 0))), (q10, .inl (K 0, 401, .inl (fun _ => 0))), (q11, .inl (K 0, 10, .inl (fun _ => 0))), (q12, .inl (K 0, 6, .inl (fun _ => 0))), (q13, .inl (K 0, 6, .inl (fun _ => 0)))] := hD
  refine va_putF (D := D) (ci := 12) (v := .ref q13) (ty := (.array .int)) (C := RX12) (T := TX12) (N := 48) hx hb hg inC12 tyX12 tyX12_ok nmX12 hown hK hP hD hS 0 rfl rfl 30 (by decide) (hg _ wt5_190) (fun _ h9 => h9) rfl hin rfl (by decide +kernel) rfl rfl (Nat.le_of_ble_eq_true rfl) dX12_init_1011 (fun H locs hP hD hS => ?_)
  have hP : va_P D vwCl [(o, .inr (12, (.int 0 :: .ref q0 :: .ref q1 :: .ref q2 :: .ref q3 :: .ref q4 :: .int 0 :: .ref q5 :: .int 0 :: .int 0 :: .int 0 :: .ref q6 :: .ref q7 :: .int 0 :: .int (-1) :: .ref q8 :: .ref q9 :: .ref q10 :: .int 0 :: .int 0 :: .int 0 :: .int 0 :: .int 0 :: .int 0 :: .int 0 :: .int 0 :: .ref q11 :: .int 0 :: .int 0 :: .ref q12 :: .ref q13 :: .null :: .null :: .int 0 :: .null :: .null :: .null :: .int 0 :: .int 0 :: .int 0 :: .int 0 :: .int 0 :: .int 0 :: .null :: .null :: .int 0 :: .int 0 :: .int 0 :: []))), (q0, .inl (K 0, 7, .inl (fun _ => 0))), (q1, .inl (K 0, 5714, .inl (fun _ => 0))), (q2, .inl (K 0, 11428, .inl (fun _ => 0))), (q3, .inl (K 2, 2, .inl (fun _ => 0))), (q4, .inl (K 0, 46, .inl (fun _ => 0))), (q5, .inl (K 1, 146, .inl w145)), (q6, .inl (K 1, 400, .inl (fun _ => 0))), (q7, .inl (K 0, 5, .inl (fun _ => 0))), (q8, .inl (K 0, 401, .inl (fun _ => 0))), (q9, .inl (K 0, 401, .inl (fun _ => 0))), (q10, .inl (K 0, 401, .inl (fun _ => 0))), (q11, .inl (K 0, 10, .inl (fun _ => 0))), (q12, .inl (K 0, 6, .inl (fun _ => 0))), (q13, .inl (K 0, 6, .inl (fun _ => 0)))] H := hP
  have hD : va_D A [(o, .inr (12, (.int 0 :: .ref q0 :: .ref q1 :: .ref q2 :: .ref q3 :: .ref q4 :: .int 0 :: .ref q5 :: .int 0 :: .int 0 :: .int 0 :: .ref q6 :: .ref q7 :: .int 0 :: .int (-1) :: .ref q8 :: .ref q9 :: .ref q10 :: .int 0 :: .int 0 :: .int 0 :: .int 0 :: .int 0 :: .int 0 :: .int 0 :: .int 0 :: .ref q11 :: .int 0 :: .int 0 :: .ref q12 :: .ref q13 :: .null :: .null :: .int 0 :: .null :: .null :: .null :: .int 0 :: .int 0 :: .int 0 :: .int 0 :: .int 0 :: .int 0 :: .null :: .null :: .int 0 :: .int 0 :: .int 0 :: []))), (q0, .inl (K 0, 7, .inl (fun _ => 0))), (q1, .inl (K 0, 5714, .inl (fun _ => 0))), (q2, .inl (K 0, 11428, .inl (fun _ => 0))), (q3, .inl (K 2, 2, .inl (fun _ => 0))), (q4, .inl (K 0, 46, .inl (fun _ => 0))), (q5, .inl (K 1, 146, .inl w145)), (q6, .inl (K 1, 400, .inl (fun _ => 0))), (q7, .inl (K 0, 5, .inl (fun _ => 0))), (q8, .inl (K 0, 401, .inl (fun _ => 0))), (q9, .inl (K 0, 401, .inl (fun _ => 0))), (q10, .inl (K 0, 401, .inl (fun _ => 0))), (q11, .inl (K 0, 10, .inl (fun _ => 0))), (q12, .inl (K 0, 6, .inl (fun _ => 0))), (q13, .inl (K 0, 6, .inl (fun _ => 0)))] := hD
  refine lv_aload_n hx hb dX12_init_1014 rfl (lv_at hl 0 rfl) ?_
  refine lv_sipush (v := 384) hx hb dX12_init_1015 (by decide) ?_
  refine k_newa (atype := .int) (a0 := (384, .inl (fun _ => 0))) hx hb (hg _ wt1_77) rfl hK hP hD hS hA 0 rfl (fun _ => rfl) (by decide) (by decide +kernel) (by decide) (by decide) (by decide) dX12_init_1018 (fun q14 H hP hD hS => ?_)
  have hP : va_P D vwCl [(o, .inr (12, (.int 0 :: .ref q0 :: .ref q1 :: .ref q2 :: .ref q3 :: .ref q4 :: .int 0 :: .ref q5 :: .int 0 :: .int 0 :: .int 0 :: .ref q6 :: .ref q7 :: .int 0 :: .int (-1) :: .ref q8 :: .ref q9 :: .ref q10 :: .int 0 :: .int 0 :: .int 0 :: .int 0 :: .int 0 :: .int 0 :: .int 0 :: .int 0 :: .ref q11 :: .int 0 :: .int 0 :: .ref q12 :: .ref q13 :: .null :: .null :: .int 0 :: .null :: .null :: .null :: .int 0 :: .int 0 :: .int 0 :: .int 0 :: .int 0 :: .int 0 :: .null :: .null :: .int 0 :: .int 0 :: .int 0 :: []))), (q0, .inl (K 0, 7, .inl (fun _ => 0))), (q1, .inl (K 0, 5714, .inl (fun _ => 0))), (q2, .inl (K 0, 11428, .inl (fun _ => 0))), (q3, .inl (K 2, 2, .inl (fun _ => 0))), (q4, .inl (K 0, 46, .inl (fun _ => 0))), (q5, .inl (K 1, 146, .inl w145)), (q6, .inl (K 1, 400, .inl (fun _ => 0))), (q7, .inl (K 0, 5, .inl (fun _ => 0))), (q8, .inl (K 0, 401, .inl (fun _ => 0))), (q9, .inl (K 0, 401, .inl (fun _ => 0))), (q10, .inl (K 0, 401, .inl (fun _ => 0))), (q11, .inl (K 0, 10, .inl (fun _ => 0))), (q12, .inl (K 0, 6, .inl (fun _ => 0))), (q13, .inl (K 0, 6, .inl (fun _ => 0))), (q14, .inl (K 0, 384, .inl (fun _ => 0)))] H := hP
  have hD : va_D A [(o, .inr (12, (.int 0 :: .ref q0 :: .ref q1 :: .ref q2 :: .ref q3 :: .ref q4 :: .int 0 :: .ref q5 :: .int 0 :: .int 0 :: .int 0 :: .ref q6 :: .ref q7 :: .int 0 :: .int (-1) :: .ref q8 :: .ref q9 :: .ref q10 :: .int 0 :: .int 0 :: .int 0 :: .int 0 :: .int 0 :: .int 0 :: .int 0 :: .int 0 :: .ref q11 :: .int 0 :: .int 0 :: .ref q12 :: .ref q13 :: .null :: .null :: .int 0 :: .null :: .null :: .null :: .int 0 :: .int 0 :: .int 0 :: .int 0 :: .int 0 :: .int 0 :: .null :: .null :: .int 0 :: .int 0 :: .int 0 :: []))), (q0, .inl (K 0, 7, .inl (fun _ => 0))), (q1, .inl (K 0, 5714, .inl (fun _ => 0))), (q2, .inl (K 0, 11428, .inl (fun _ => 0))), (q3, .inl (K 2, 2, .inl (fun _ => 0))), (q4, .inl (K 0, 46, .inl (fun _ => 0))), (q5, .inl (K 1, 146, .inl w145)), (q6, .inl (K 1, 400, .inl (fun _ => 0))), (q7, .inl (K 0, 5, .inl (fun _ => 0))), (q8, .inl (K 0, 401, .inl (fun _ => 0))), (q9, .inl (K 0, 401, .inl (fun _ => 0))), (q10, .inl (K 0, 401, .inl (fun _ => 0))), (q11, .inl (K 0, 10, .inl (fun _ => 0))), (q12, .inl (K 0, 6, .inl (fun _ => 0))), (q13, .inl (K 0, 6, .inl (fun _ => 0))), (q14, .inl (K 0, 384, .inl (fun _ => 0)))] := hD
  refine va_putF (D := D) (ci := 12) (v := .ref q14) (ty := (.array .int)) (C := RX12) (T := TX12) (N := 48) hx hb hg inC12 tyX12 tyX12_ok nmX12 hown hK hP hD hS 0 rfl rfl 31 (by decide) (hg _ wt5_191) (fun _ h9 => h9) rfl hin rfl (by decide +kernel) rfl rfl (Nat.le_of_ble_eq_true rfl) dX12_init_1020 (fun H locs hP hD hS => ?_)
  have hP : va_P D vwCl [(o, .inr (12, (.int 0 :: .ref q0 :: .ref q1 :: .ref q2 :: .ref q3 :: .ref q4 :: .int 0 :: .ref q5 :: .int 0 :: .int 0 :: .int 0 :: .ref q6 :: .ref q7 :: .int 0 :: .int (-1) :: .ref q8 :: .ref q9 :: .ref q10 :: .int 0 :: .int 0 :: .int 0 :: .int 0 :: .int 0 :: .int 0 :: .int 0 :: .int 0 :: .ref q11 :: .int 0 :: .int 0 :: .ref q12 :: .ref q13 :: .ref q14 :: .null :: .int 0 :: .null :: .null :: .null :: .int 0 :: .int 0 :: .int 0 :: .int 0 :: .int 0 :: .int 0 :: .null :: .null :: .int 0 :: .int 0 :: .int 0 :: []))), (q0, .inl (K 0, 7, .inl (fun _ => 0))), (q1, .inl (K 0, 5714, .inl (fun _ => 0))), (q2, .inl (K 0, 11428, .inl (fun _ => 0))), (q3, .inl (K 2, 2, .inl (fun _ => 0))), (q4, .inl (K 0, 46, .inl (fun _ => 0))), (q5, .inl (K 1, 146, .inl w145)), (q6, .inl (K 1, 400, .inl (fun _ => 0))), (q7, .inl (K 0, 5, .inl (fun _ => 0))), (q8, .inl (K 0, 401, .inl (fun _ => 0))), (q9, .inl (K 0, 401, .inl (fun _ => 0))), (q10, .inl (K 0, 401, .inl (fun _ => 0))), (q11, .inl (K 0, 10, .inl (fun _ => 0))), (q12, .inl (K 0, 6, .inl (fun _ => 0))), (q13, .inl (K 0, 6, .inl (fun _ => 0))), (q14, .inl (K 0, 384, .inl (fun _ => 0)))] H := hP
  have hD : va_D A [(o, .inr (12, (.int 0 :: .ref q0 :: .ref q1 :: .ref q2 :: .ref q3 :: .ref q4 :: .int 0 :: .ref q5 :: .int 0 :: .int 0 :: .int 0 :: .ref q6 :: .ref q7 :: .int 0 :: .int (-1) :: .ref q8 :: .ref q9 :: .ref q10 :: .int 0 :: .int 0 :: .int 0 :: .int 0 :: .int 0 :: .int 0 :: .int 0 :: .int 0 :: .ref q11 :: .int 0 :: .int 0 :: .ref q12 :: .ref q13 :: .ref q14 :: .null :: .int 0 :: .null :: .null :: .null :: .int 0 :: .int 0 :: .int 0 :: .int 0 :: .int 0 :: .int 0 :: .null :: .null :: .int 0 :: .int 0 :: .int 0 :: []))), (q0, .inl (K 0, 7, .inl (fun _ => 0))), (q1, .inl (K 0, 5714, .inl (fun _ => 0))), (q2, .inl (K 0, 11428, .inl (fun _ => 0))), (q3, .inl (K 2, 2, .inl (fun _ => 0))), (q4, .inl (K 0, 46, .inl (fun _ => 0))), (q5, .inl (K 1, 146, .inl w145)), (q6, .inl (K 1, 400, .inl (fun _ => 0))), (q7, .inl (K 0, 5, .inl (fun _ => 0))), (q8, .inl (K 0, 401, .inl (fun _ => 0))), (q9, .inl (K 0, 401, .inl (fun _ => 0))), (q10, .inl (K 0, 401, .inl (fun _ => 0))), (q11, .inl (K 0, 10, .inl (fun _ => 0))), (q12, .inl (K 0, 6, .inl (fun _ => 0))), (q13, .inl (K 0, 6, .inl (fun _ => 0))), (q14, .inl (K 0, 384, .inl (fun _ => 0)))] := hD
  refine lv_aload_n hx hb dX12_init_1023 rfl (lv_at hl 0 rfl) ?_
  refine lv_sipush (v := 384) hx hb dX12_init_1024 (by decide) ?_
  refine k_newa (atype := .int) (a0 := (384, .inl (fun _ => 0))) hx hb (hg _ wt1_77) rfl hK hP hD hS hA 0 rfl (fun _ => rfl) (by decide) (by decide +kernel) (by decide) (by decide) (by decide) dX12_init_1027 (fun q15 H hP hD hS => ?_)
  have hP : va_P D vwCl [(o, .inr (12, (.int 0 :: .ref q0 :: .ref q1 :: .ref q2 :: .ref q3 :: .ref q4 :: .int 0 :: .ref q5 :: .int 0 :: .int 0 :: .int 0 :: .ref q6 :: .ref q7 :: .int 0 :: .int (-1) :: .ref q8 :: .ref q9 :: .ref q10 :: .int 0 :: .int 0 :: .int 0 :: .int 0 :: .int 0 :: .int 0 :: .int 0 :: .int 0 :: .ref q11 :: .int 0 :: .int 0 :: .ref q12 :: .ref q13 :: .ref q14 :: .null :: .int 0 :: .null :: .null :: .null :: .int 0 :: .int 0 :: .int 0 :: .int 0 :: .int 0 :: .int 0 :: .null :: .null :: .int 0 :: .int 0 :: .int 0 :: []))), (q0, .inl (K 0, 7, .inl (fun _ => 0))), (q1, .inl (K 0, 5714, .inl (fun _ => 0))), (q2, .inl (K 0, 11428, .inl (fun _ => 0))), (q3, .inl (K 2, 2, .inl (fun _ => 0))), (q4, .inl (K 0, 46, .inl (fun _ => 0))), (q5, .inl (K 1, 146, .inl w145)), (q6, .inl (K 1, 400, .inl (fun _ => 0))), (q7, .inl (K 0, 5, .inl (fun _ => 0))), (q8, .inl (K 0, 401, .inl (fun _ => 0))), (q9, .inl (K 0, 401, .inl (fun _ => 0))), (q10, .inl (K 0, 401, .inl (fun _ => 0))), (q11, .inl (K 0, 10, .inl (fun _ => 0))), (q12, .inl (K 0, 6, .inl (fun _ => 0))), (q13, .inl (K 0, 6, .inl (fun _ => 0))), (q14, .inl (K 0, 384, .inl (fun _ => 0))), (q15, .inl (K 0, 384, .inl (fun _ => 0)))] H := hP
  have hD : va_D A [(o, .inr (12, (.int 0 :: .ref q0 :: .ref q1 :: .ref q2 :: .ref q3 :: .ref q4 :: .int 0 :: .ref q5 :: .int 0 :: .int 0 :: .int 0 :: .ref q6 :: .ref q7 :: .int 0 :: .int (-1) :: .ref q8 :: .ref q9 :: .ref q10 :: .int 0 :: .int 0 :: .int 0 :: .int 0 :: .int 0 :: .int 0 :: .int 0 :: .int 0 :: .ref q11 :: .int 0 :: .int 0 :: .ref q12 :: .ref q13 :: .ref q14 :: .null :: .int 0 :: .null :: .null :: .null :: .int 0 :: .int 0 :: .int 0 :: .int 0 :: .int 0 :: .int 0 :: .null :: .null :: .int 0 :: .int 0 :: .int 0 :: []))), (q0, .inl (K 0, 7, .inl (fun _ => 0))), (q1, .inl (K 0, 5714, .inl (fun _ => 0))), (q2, .inl (K 0, 11428, .inl (fun _ => 0))), (q3, .inl (K 2, 2, .inl (fun _ => 0))), (q4, .inl (K 0, 46, .inl (fun _ => 0))), (q5, .inl (K 1, 146, .inl w145)), (q6, .inl (K 1, 400, .inl (fun _ => 0))), (q7, .inl (K 0, 5, .inl (fun _ => 0))), (q8, .inl (K 0, 401, .inl (fun _ => 0))), (q9, .inl (K 0, 401, .inl (fun _ => 0))), (q10, .inl (K 0, 401, .inl (fun _ => 0))), (q11, .inl (K 0, 10, .inl (fun _ => 0))), (q12, .inl (K 0, 6, .inl (fun _ => 0))), (q13, .inl (K 0, 6, .inl (fun _ => 0))), (q14, .inl (K 0, 384, .inl (fun _ => 0))), (q15, .inl (K 0, 384, .inl (fun _ => 0)))] := hD
  refine va_putF (D := D) (ci := 12) (v := .ref q15) (ty := (.array .int)) (C := RX12) (T := TX12) (N := 48) hx hb hg inC12 tyX12 tyX12_ok nmX12 hown hK hP hD hS 0 rfl rfl 32 (by decide) (hg _ wt5_192) (fun _ h9 => h9) rfl hin rfl (by decide +kernel) rfl rfl (Nat.le_of_ble_eq_true rfl) dX12_init_1029 (fun H locs hP hD hS => ?_)
  have hP : va_P D vwCl [(o, .inr (12, (.int 0 :: .ref q0 :: .ref q1 :: .ref q2 :: .ref q3 :: .ref q4 :: .int 0 :: .ref q5 :: .int 0 :: .int 0 :: .int 0 :: .ref q6 :: .ref q7 :: .int 0 :: .int (-1) :: .ref q8 :: .ref q9 :: .ref q10 :: .int 0 :: .int 0 :: .int 0 :: .int 0 :: .int 0 :: .int 0 :: .int 0 :: .int 0 :: .ref q11 :: .int 0 :: .int 0 :: .ref q12 :: .ref q13 :: .ref q14 :: .ref q15 :: .int 0 :: .null :: .null :: .null :: .int 0 :: .int 0 :: .int 0 :: .int 0 :: .int 0 :: .int 0 :: .null :: .null :: .int 0 :: .int 0 :: .int 0 :: []))), (q0, .inl (K 0, 7, .inl (fun _ => 0))), (q1, .inl (K 0, 5714, .inl (fun _ => 0))), (q2, .inl (K 0, 11428, .inl (fun _ => 0))), (q3, .inl (K 2, 2, .inl (fun _ => 0))), (q4, .inl (K 0, 46, .inl (fun _ => 0))), (q5, .inl (K 1, 146, .inl w145)), (q6, .inl (K 1, 400, .inl (fun _ => 0))), (q7, .inl (K 0, 5, .inl (fun _ => 0))), (q8, .inl (K 0, 401, .inl (fun _ => 0))), (q9, .inl (K 0, 401, .inl (fun _ => 0))), (q10, .inl (K 0, 401, .inl (fun _ => 0))), (q11, .inl (K 0, 10, .inl (fun _ => 0))), (q12, .inl (K 0, 6, .inl (fun _ => 0))), (q13, .inl (K 0, 6, .inl (fun _ => 0))), (q14, .inl (K 0, 384, .inl (fun _ => 0))), (q15, .inl (K 0, 384, .inl (fun _ => 0)))] H := hP
  have hD : va_D A [(o, .inr (12, (.int 0 :: .ref q0 :: .ref q1 :: .ref q2 :: .ref q3 :: .ref q4 :: .int 0 :: .ref q5 :: .int 0 :: .int 0 :: .int 0 :: .ref q6 :: .ref q7 :: .int 0 :: .int (-1) :: .ref q8 :: .ref q9 :: .ref q10 :: .int 0 :: .int 0 :: .int 0 :: .int 0 :: .int 0 :: .int 0 :: .int 0 :: .int 0 :: .ref q11 :: .int 0 :: .int 0 :: .ref q12 :: .ref q13 :: .ref q14 :: .ref q15 :: .int 0 :: .null :: .null :: .null :: .int 0 :: .int 0 :: .int 0 :: .int 0 :: .int 0 :: .int 0 :: .null :: .null :: .int 0 :: .int 0 :: .int 0 :: []))), (q0, .inl (K 0, 7, .inl (fun _ => 0))), (q1, .inl (K 0, 5714, .inl (fun _ => 0))), (q2, .inl (K 0, 11428, .inl (fun _ => 0))), (q3, .inl (K 2, 2, .inl (fun _ => 0))), (q4, .inl (K 0, 46, .inl (fun _ => 0))), (q5, .inl (K 1, 146, .inl w145)), (q6, .inl (K 1, 400, .inl (fun _ => 0))), (q7, .inl (K 0, 5, .inl (fun _ => 0))), (q8, .inl (K 0, 401, .inl (fun _ => 0))), (q9, .inl (K 0, 401, .inl (fun _ => 0))), (q10, .inl (K 0, 401, .inl (fun _ => 0))), (q11, .inl (K 0, 10, .inl (fun _ => 0))), (q12, .inl (K 0, 6, .inl (fun _ => 0))), (q13, .inl (K 0, 6, .inl (fun _ => 0))), (q14, .inl (K 0, 384, .inl (fun _ => 0))), (q15, .inl (K 0, 384, .inl (fun _ => 0)))] := hD
  refine lv_aload_n hx hb dX12_init_1032 rfl (lv_at hl 0 rfl) ?_
  refine lv_bipush (v := 10) hx hb dX12_init_1033 (by decide) ?_
  refine k_newa (atype := .int) (a0 := (10, .inl (fun _ => 0))) hx hb (hg _ wt1_77) rfl hK hP hD hS hA 0 rfl (fun _ => rfl) (by decide) (by decide +kernel) (by decide) (by decide) (by decide) dX12_init_1035 (fun q16 H hP hD hS => ?_)
  have hP : va_P D vwCl [(o, .inr (12, (.int 0 :: .ref q0 :: .ref q1 :: .ref q2 :: .ref q3 :: .ref q4 :: .int 0 :: .ref q5 :: .int 0 :: .int 0 :: .int 0 :: .ref q6 :: .ref q7 :: .int 0 :: .int (-1) :: .ref q8 :: .ref q9 :: .ref q10 :: .int 0 :: .int 0 :: .int 0 :: .int 0 :: .int 0 :: .int 0 :: .int 0 :: .int 0 :: .ref q11 :: .int 0 :: .int 0 :: .ref q12 :: .ref q13 :: .ref q14 :: .ref q15 :: .int 0 :: .null :: .null :: .null :: .int 0 :: .int 0 :: .int 0 :: .int 0 :: .int 0 :: .int 0 :: .null :: .null :: .int 0 :: .int 0 :: .int 0 :: []))), (q0, .inl (K 0, 7, .inl (fun _ => 0))), (q1, .inl (K 0, 5714, .inl (fun _ => 0))), (q2, .inl (K 0, 11428, .inl (fun _ => 0))), (q3, .inl (K 2, 2, .inl (fun _ => 0))), (q4, .inl (K 0, 46, .inl (fun _ => 0))), (q5, .inl (K 1, 146, .inl w145)), (q6, .inl (K 1, 400, .inl (fun _ => 0))), (q7, .inl (K 0, 5, .inl (fun _ => 0))), (q8, .inl (K 0, 401, .inl (fun _ => 0))), (q9, .inl (K 0, 401, .inl (fun _ => 0))), (q10, .inl (K 0, 401, .inl (fun _ => 0))), (q11, .inl (K 0, 10, .inl (fun _ => 0))), (q12, .inl (K 0, 6, .inl (fun _ => 0))), (q13, .inl (K 0, 6, .inl (fun _ => 0))), (q14, .inl (K 0, 384, .inl (fun _ => 0))), (q15, .inl (K 0, 384, .inl (fun _ => 0))), (q16, .inl (K 0, 10, .inl (fun _ => 0)))] H := hP
  have hD : va_D A [(o, .inr (12, (.int 0 :: .ref q0 :: .ref q1 :: .ref q2 :: .ref q3 :: .ref q4 :: .int 0 :: .ref q5 :: .int 0 :: .int 0 :: .int 0 :: .ref q6 :: .ref q7 :: .int 0 :: .int (-1) :: .ref q8 :: .ref q9 :: .ref q10 :: .int 0 :: .int 0 :: .int 0 :: .int 0 :: .int 0 :: .int 0 :: .int 0 :: .int 0 :: .ref q11 :: .int 0 :: .int 0 :: .ref q12 :: .ref q13 :: .ref q14 :: .ref q15 :: .int 0 :: .null :: .null :: .null :: .int 0 :: .int 0 :: .int 0 :: .int 0 :: .int 0 :: .int 0 :: .null :: .null :: .int 0 :: .int 0 :: .int 0 :: []))), (q0, .inl (K 0, 7, .inl (fun _ => 0))), (q1, .inl (K 0, 5714, .inl (fun _ => 0))), (q2, .inl (K 0, 11428, .inl (fun _ => 0))), (q3, .inl (K 2, 2, .inl (fun _ => 0))), (q4, .inl (K 0, 46, .inl (fun _ => 0))), (q5, .inl (K 1, 146, .inl w145)), (q6, .inl (K 1, 400, .inl (fun _ => 0))), (q7, .inl (K 0, 5, .inl (fun _ => 0))), (q8, .inl (K 0, 401, .inl (fun _ => 0))), (q9, .inl (K 0, 401, .inl (fun _ => 0))), (q10, .inl (K 0, 401, .inl (fun _ => 0))), (q11, .inl (K 0, 10, .inl (fun _ => 0))), (q12, .inl (K 0, 6, .inl (fun _ => 0))), (q13, .inl (K 0, 6, .inl (fun _ => 0))), (q14, .inl (K 0, 384, .inl (fun _ => 0))), (q15, .inl (K 0, 384, .inl (fun _ => 0))), (q16, .inl (K 0, 10, .inl (fun _ => 0)))] := hD
  refine va_putF (D := D) (ci := 12) (v := .ref q16) (ty := (.array .int)) (C := RX12) (T := TX12) (N := 48) hx hb hg inC12 tyX12 tyX12_ok nmX12 hown hK hP hD hS 0 rfl rfl 34 (by decide) (hg _ wt5_194) (fun _ h9 => h9) rfl hin rfl (by decide +kernel) rfl rfl (Nat.le_of_ble_eq_true rfl) dX12_init_1037 (fun H locs hP hD hS => ?_)
  have hP : va_P D vwCl [(o, .inr (12, (.int 0 :: .ref q0 :: .ref q1 :: .ref q2 :: .ref q3 :: .ref q4 :: .int 0 :: .ref q5 :: .int 0 :: .int 0 :: .int 0 :: .ref q6 :: .ref q7 :: .int 0 :: .int (-1) :: .ref q8 :: .ref q9 :: .ref q10 :: .int 0 :: .int 0 :: .int 0 :: .int 0 :: .int 0 :: .int 0 :: .int 0 :: .int 0 :: .ref q11 :: .int 0 :: .int 0 :: .ref q12 :: .ref q13 :: .ref q14 :: .ref q15 :: .int 0 :: .ref q16 :: .null :: .null :: .int 0 :: .int 0 :: .int 0 :: .int 0 :: .int 0 :: .int 0 :: .null :: .null :: .int 0 :: .int 0 :: .int 0 :: []))), (q0, .inl (K 0, 7, .inl (fun _ => 0))), (q1, .inl (K 0, 5714, .inl (fun _ => 0))), (q2, .inl (K 0, 11428, .inl (fun _ => 0))), (q3, .inl (K 2, 2, .inl (fun _ => 0))), (q4, .inl (K 0, 46, .inl (fun _ => 0))), (q5, .inl (K 1, 146, .inl w145)), (q6, .inl (K 1, 400, .inl (fun _ => 0))), (q7, .inl (K 0, 5, .inl (fun _ => 0))), (q8, .inl (K 0, 401, .inl (fun _ => 0))), (q9, .inl (K 0, 401, .inl (fun _ => 0))), (q10, .inl (K 0, 401, .inl (fun _ => 0))), (q11, .inl (K 0, 10, .inl (fun _ => 0))), (q12, .inl (K 0, 6, .inl (fun _ => 0))), (q13, .inl (K 0, 6, .inl (fun _ => 0))), (q14, .inl (K 0, 384, .inl (fun _ => 0))), (q15, .inl (K 0, 384, .inl (fun _ => 0))), (q16, .inl (K 0, 10, .inl (fun _ => 0)))] H := hP
  have hD : va_D A [(o, .inr (12, (.int 0 :: .ref q0 :: .ref q1 :: .ref q2 :: .ref q3 :: .ref q4 :: .int 0 :: .ref q5 :: .int 0 :: .int 0 :: .int 0 :: .ref q6 :: .ref q7 :: .int 0 :: .int (-1) :: .ref q8 :: .ref q9 :: .ref q10 :: .int 0 :: .int 0 :: .int 0 :: .int 0 :: .int 0 :: .int 0 :: .int 0 :: .int 0 :: .ref q11 :: .int 0 :: .int 0 :: .ref q12 :: .ref q13 :: .ref q14 :: .ref q15 :: .int 0 :: .ref q16 :: .null :: .null :: .int 0 :: .int 0 :: .int 0 :: .int 0 :: .int 0 :: .int 0 :: .null :: .null :: .int 0 :: .int 0 :: .int 0 :: []))), (q0, .inl (K 0, 7, .inl (fun _ => 0))), (q1, .inl (K 0, 5714, .inl (fun _ => 0))), (q2, .inl (K 0, 11428, .inl (fun _ => 0))), (q3, .inl (K 2, 2, .inl (fun _ => 0))), (q4, .inl (K 0, 46, .inl (fun _ => 0))), (q5, .inl (K 1, 146, .inl w145)), (q6, .inl (K 1, 400, .inl (fun _ => 0))), (q7, .inl (K 0, 5, .inl (fun _ => 0))), (q8, .inl (K 0, 401, .inl (fun _ => 0))), (q9, .inl (K 0, 401, .inl (fun _ => 0))), (q10, .inl (K 0, 401, .inl (fun _ => 0))), (q11, .inl (K 0, 10, .inl (fun _ => 0))), (q12, .inl (K 0, 6, .inl (fun _ => 0))), (q13, .inl (K 0, 6, .inl (fun _ => 0))), (q14, .inl (K 0, 384, .inl (fun _ => 0))), (q15, .inl (K 0, 384, .inl (fun _ => 0))), (q16, .inl (K 0, 10, .inl (fun _ => 0)))] := hD
  refine lv_aload_n hx hb dX12_init_1040 rfl (lv_at hl 0 rfl) ?_
  refine lv_sipush (v := 1024) hx hb dX12_init_1041 (by decide) ?_
  refine k_newa (atype := .int) (a0 := (1024, .inl (fun _ => 0))) hx hb (hg _ wt1_77) rfl hK hP hD hS hA 0 rfl (fun _ => rfl) (by decide) (by decide +kernel) (by decide) (by decide) (by decide) dX12_init_1044 (fun q17 H hP hD hS => ?_)
  have hP : va_P D vwCl [(o, .inr (12, (.int 0 :: .ref q0 :: .ref q1 :: .ref q2 :: .ref q3 :: .ref q4 :: .int 0 :: .ref q5 :: .int 0 :: .int 0 :: .int 0 :: .ref q6 :: .ref q7 :: .int 0 :: .int (-1) :: .ref q8 :: .ref q9 :: .ref q10 :: .int 0 :: .int 0 :: .int 0 :: .int 0 :: .int 0 :: .int 0 :: .int 0 :: .int 0 :: .ref q11 :: .int 0 :: .int 0 :: .ref q12 :: .ref q13 :: .ref q14 :: .ref q15 :: .int 0 :: .ref q16 :: .null :: .null :: .int 0 :: .int 0 :: .int 0 :: .int 0 :: .int 0 :: .int 0 :: .null :: .null :: .int 0 :: .int 0 :: .int 0 :: []))), (q0, .inl (K 0, 7, .inl (fun _ => 0))), (q1, .inl (K 0, 5714, .inl (fun _ => 0))), (q2, .inl (K 0, 11428, .inl (fun _ => 0))), (q3, .inl (K 2, 2, .inl (fun _ => 0))), (q4, .inl (K 0, 46, .inl (fun _ => 0))), (q5, .inl (K 1, 146, .inl w145)), (q6, .inl (K 1, 400, .inl (fun _ => 0))), (q7, .inl (K 0, 5, .inl (fun _ => 0))), (q8, .inl (K 0, 401, .inl (fun _ => 0))), (q9, .inl (K 0, 401, .inl (fun _ => 0))), (q10, .inl (K 0, 401, .inl (fun _ => 0))), (q11, .inl (K 0, 10, .inl (fun _ => 0))), (q12, .inl (K 0, 6, .inl (fun _ => 0))), (q13, .inl (K 0, 6, .inl (fun _ => 0))), (q14, .inl (K 0, 384, .inl (fun _ => 0))), (q15, .inl (K 0, 384, .inl (fun _ => 0))), (q16, .inl (K 0, 10, .inl (fun _ => 0))), (q17, .inl (K 0, 1024, .inl (fun _ => 0)))] H := hP
  have hD : va_D A [(o, .inr (12, (.int 0 :: .ref q0 :: .ref q1 :: .ref q2 :: .ref q3 :: .ref q4 :: .int 0 :: .ref q5 :: .int 0 :: .int 0 :: .int 0 :: .ref q6 :: .ref q7 :: .int 0 :: .int (-1) :: .ref q8 :: .ref q9 :: .ref q10 :: .int 0 :: .int 0 :: .int 0 :: .int 0 :: .int 0 :: .int 0 :: .int 0 :: .int 0 :: .ref q11 :: .int 0 :: .int 0 :: .ref q12 :: .ref q13 :: .ref q14 :: .ref q15 :: .int 0 :: .ref q16 :: .null :: .null :: .int 0 :: .int 0 :: .int 0 :: .int 0 :: .int 0 :: .int 0 :: .null :: .null :: .int 0 :: .int 0 :: .int 0 :: []))), (q0, .inl (K 0, 7, .inl (fun _ => 0))), (q1, .inl (K 0, 5714, .inl (fun _ => 0))), (q2, .inl (K 0, 11428, .inl (fun _ => 0))), (q3, .inl (K 2, 2, .inl (fun _ => 0))), (q4, .inl (K 0, 46, .inl (fun _ => 0))), (q5, .inl (K 1, 146, .inl w145)), (q6, .inl (K 1, 400, .inl (fun _ => 0))), (q7, .inl (K 0, 5, .inl (fun _ => 0))), (q8, .inl (K 0, 401, .inl (fun _ => 0))), (q9, .inl (K 0, 401, .inl (fun _ => 0))), (q10, .inl (K 0, 401, .inl (fun _ => 0))), (q11, .inl (K 0, 10, .inl (fun _ => 0))), (q12, .inl (K 0, 6, .inl (fun _ => 0))), (q13, .inl (K 0, 6, .inl (fun _ => 0))), (q14, .inl (K 0, 384, .inl (fun _ => 0))), (q15, .inl (K 0, 384, .inl (fun _ => 0))), (q16, .inl (K 0, 10, .inl (fun _ => 0))), (q17, .inl (K 0, 1024, .inl (fun _ => 0)))] := hD
  refine va_putF (D := D) (ci := 12) (v := .ref q17) (ty := (.array .int)) (C := RX12) (T := TX12) (N := 48) hx hb hg inC12 tyX12 tyX12_ok nmX12 hown hK hP hD hS 0 rfl rfl 35 (by decide) (hg _ wt5_195) (fun _ h9 => h9) rfl hin rfl (by decide +kernel) rfl rfl (Nat.le_of_ble_eq_true rfl) dX12_init_1046 (fun H locs hP hD hS => ?_)
  have hP : va_P D vwCl [(o, .inr (12, (.int 0 :: .ref q0 :: .ref q1 :: .ref q2 :: .ref q3 :: .ref q4 :: .int 0 :: .ref q5 :: .int 0 :: .int 0 :: .int 0 :: .ref q6 :: .ref q7 :: .int 0 :: .int (-1) :: .ref q8 :: .ref q9 :: .ref q10 :: .int 0 :: .int 0 :: .int 0 :: .int 0 :: .int 0 :: .int 0 :: .int 0 :: .int 0 :: .ref q11 :: .int 0 :: .int 0 :: .ref q12 :: .ref q13 :: .ref q14 :: .ref q15 :: .int 0 :: .ref q16 :: .ref q17 :: .null :: .int 0 :: .int 0 :: .int 0 :: .int 0 :: .int 0 :: .int 0 :: .null :: .null :: .int 0 :: .int 0 :: .int 0 :: []))), (q0, .inl (K 0, 7, .inl (fun _ => 0))), (q1, .inl (K 0, 5714, .inl (fun _ => 0))), (q2, .inl (K 0, 11428, .inl (fun _ => 0))), (q3, .inl (K 2, 2, .inl (fun _ => 0))), (q4, .inl (K 0, 46, .inl (fun _ => 0))), (q5, .inl (K 1, 146, .inl w145)), (q6, .inl (K 1, 400, .inl (fun _ => 0))), (q7, .inl (K 0, 5, .inl (fun _ => 0))), (q8, .inl (K 0, 401, .inl (fun _ => 0))), (q9, .inl (K 0, 401, .inl (fun _ => 0))), (q10, .inl (K 0, 401, .inl (fun _ => 0))), (q11, .inl (K 0, 10, .inl (fun _ => 0))), (q12, .inl (K 0, 6, .inl (fun _ => 0))), (q13, .inl (K 0, 6, .inl (fun _ => 0))), (q14, .inl (K 0, 384, .inl (fun _ => 0))), (q15, .inl (K 0, 384, .inl (fun _ => 0))), (q16, .inl (K 0, 10, .inl (fun _ => 0))), (q17, .inl (K 0, 1024, .inl (fun _ => 0)))] H := hP
  have hD : va_D A [(o, .inr (12, (.int 0 :: .ref q0 :: .ref q1 :: .ref q2 :: .ref q3 :: .ref q4 :: .int 0 :: .ref q5 :: .int 0 :: .int 0 :: .int 0 :: .ref q6 :: .ref q7 :: .int 0 :: .int (-1) :: .ref q8 :: .ref q9 :: .ref q10 :: .int 0 :: .int 0 :: .int 0 :: .int 0 :: .int 0 :: .int 0 :: .int 0 :: .int 0 :: .ref q11 :: .int 0 :: .int 0 :: .ref q12 :: .ref q13 :: .ref q14 :: .ref q15 :: .int 0 :: .ref q16 :: .ref q17 :: .null :: .int 0 :: .int 0 :: .int 0 :: .int 0 :: .int 0 :: .int 0 :: .null :: .null :: .int 0 :: .int 0 :: .int 0 :: []))), (q0, .inl (K 0, 7, .inl (fun _ => 0))), (q1, .inl (K 0, 5714, .inl (fun _ => 0))), (q2, .inl (K 0, 11428, .inl (fun _ => 0))), (q3, .inl (K 2, 2, .inl (fun _ => 0))), (q4, .inl (K 0, 46, .inl (fun _ => 0))), (q5, .inl (K 1, 146, .inl w145)), (q6, .inl (K 1, 400, .inl (fun _ => 0))), (q7, .inl (K 0, 5, .inl (fun _ => 0))), (q8, .inl (K 0, 401, .inl (fun _ => 0))), (q9, .inl (K 0, 401, .inl (fun _ => 0))), (q10, .inl (K 0, 401, .inl (fun _ => 0))), (q11, .inl (K 0, 10, .inl (fun _ => 0))), (q12, .inl (K 0, 6, .inl (fun _ => 0))), (q13, .inl (K 0, 6, .inl (fun _ => 0))), (q14, .inl (K 0, 384, .inl (fun _ => 0))), (q15, .inl (K 0, 384, .inl (fun _ => 0))), (q16, .inl (K 0, 10, .inl (fun _ => 0))), (q17, .inl (K 0, 1024, .inl (fun _ => 0)))] := hD
  refine lv_aload_n hx hb dX12_init_1049 rfl (lv_at hl 0 rfl) ?_
  refine lv_sipush (v := 451) hx hb dX12_init_1050 (by decide) ?_
  refine k_newa (atype := .int) (a0 := (451, .inl (fun _ => 0))) hx hb (hg _ wt1_77) rfl hK hP hD hS hA 0 rfl (fun _ => rfl) (by decide) (by decide +kernel) (by decide) (by decide) (by decide) dX12_init_1053 (fun q18 H hP hD hS => ?_)
  have hP : va_P D vwCl [(o, .inr (12, (.int 0 :: .ref q0 :: .ref q1 :: .ref q2 :: .ref q3 :: .ref q4 :: .int 0 :: .ref q5 :: .int 0 :: .int 0 :: .int 0 :: .ref q6 :: .ref q7 :: .int 0 :: .int (-1) :: .ref q8 :: .ref q9 :: .ref q10 :: .int 0 :: .int 0 :: .int 0 :: .int 0 :: .int 0 :: .int 0 :: .int 0 :: .int 0 :: .ref q11 :: .int 0 :: .int 0 :: .ref q12 :: .ref q13 :: .ref q14 :: .ref q15 :: .int 0 :: .ref q16 :: .ref q17 :: .null :: .int 0 :: .int 0 :: .int 0 :: .int 0 :: .int 0 :: .int 0 :: .null :: .null :: .int 0 :: .int 0 :: .int 0 :: []))), (q0, .inl (K 0, 7, .inl (fun _ => 0))), (q1, .inl (K 0, 5714, .inl (fun _ => 0))), (q2, .inl (K 0, 11428, .inl (fun _ => 0))), (q3, .inl (K 2, 2, .inl (fun _ => 0))), (q4, .inl (K 0, 46, .inl (fun _ => 0))), (q5, .inl (K 1, 146, .inl w145)), (q6, .inl (K 1, 400, .inl (fun _ => 0))), (q7, .inl (K 0, 5, .inl (fun _ => 0))), (q8, .inl (K 0, 401, .inl (fun _ => 0))), (q9, .inl (K 0, 401, .inl (fun _ => 0))), (q10, .inl (K 0, 401, .inl (fun _ => 0))), (q11, .inl (K 0, 10, .inl (fun _ => 0))), (q12, .inl (K 0, 6, .inl (fun _ => 0))), (q13, .inl (K 0, 6, .inl (fun _ => 0))), (q14, .inl (K 0, 384, .inl (fun _ => 0))), (q15, .inl (K 0, 384, .inl (fun _ => 0))), (q16, .inl (K 0, 10, .inl (fun _ => 0))), (q17, .inl (K 0, 1024, .inl (fun _ => 0))), (q18, .inl (K 0, 451, .inl (fun _ => 0)))] H := hP
  have hD : va_D A [(o, .inr (12, (.int 0 :: .ref q0 :: .ref q1 :: .ref q2 :: .ref q3 :: .ref q4 :: .int 0 :: .ref q5 :: .int 0 :: .int 0 :: .int 0 :: .ref q6 :: .ref q7 :: .int 0 :: .int (-1) :: .ref q8 :: .ref q9 :: .ref q10 :: .int 0 :: .int 0 :: .int 0 :: .int 0 :: .int 0 :: .int 0 :: .int 0 :: .int 0 :: .ref q11 :: .int 0 :: .int 0 :: .ref q12 :: .ref q13 :: .ref q14 :: .ref q15 :: .int 0 :: .ref q16 :: .ref q17 :: .null :: .int 0 :: .int 0 :: .int 0 :: .int 0 :: .int 0 :: .int 0 :: .null :: .null :: .int 0 :: .int 0 :: .int 0 :: []))), (q0, .inl (K 0, 7, .inl (fun _ => 0))), (q1, .inl (K 0, 5714, .inl (fun _ => 0))), (q2, .inl (K 0, 11428, .inl (fun _ => 0))), (q3, .inl (K 2, 2, .inl (fun _ => 0))), (q4, .inl (K 0, 46, .inl (fun _ => 0))), (q5, .inl (K 1, 146, .inl w145)), (q6, .inl (K 1, 400, .inl (fun _ => 0))), (q7, .inl (K 0, 5, .inl (fun _ => 0))), (q8, .inl (K 0, 401, .inl (fun _ => 0))), (q9, .inl (K 0, 401, .inl (fun _ => 0))), (q10, .inl (K 0, 401, .inl (fun _ => 0))), (q11, .inl (K 0, 10, .inl (fun _ => 0))), (q12, .inl (K 0, 6, .inl (fun _ => 0))), (q13, .inl (K 0, 6, .inl (fun _ => 0))), (q14, .inl (K 0, 384, .inl (fun _ => 0))), (q15, .inl (K 0, 384, .inl (fun _ => 0))), (q16, .inl (K 0, 10, .inl (fun _ => 0))), (q17, .inl (K 0, 1024, .inl (fun _ => 0))), (q18, .inl (K 0, 451, .inl (fun _ => 0)))] := hD
  refine va_putF (D := D) (ci := 12) (v := .ref q18) (ty := (.array .int)) (C := RX12) (T := TX12) (N := 48) hx hb hg inC12 tyX12 tyX12_ok nmX12 hown hK hP hD hS 0 rfl rfl 36 (by decide) (hg _ wt5_196) (fun _ h9 => h9) rfl hin rfl (by decide +kernel) rfl rfl (Nat.le_of_ble_eq_true rfl) dX12_init_1055 (fun H locs hP hD hS => ?_)
  have hP : va_P D vwCl [(o, .inr (12, (.int 0 :: .ref q0 :: .ref q1 :: .ref q2 :: .ref q3 :: .ref q4 :: .int 0 :: .ref q5 :: .int 0 :: .int 0 :: .int 0 :: .ref q6 :: .ref q7 :: .int 0 :: .int (-1) :: .ref q8 :: .ref q9 :: .ref q10 :: .int 0 :: .int 0 :: .int 0 :: .int 0 :: .int 0 :: .int 0 :: .int 0 :: .int 0 :: .ref q11 :: .int 0 :: .int 0 :: .ref q12 :: .ref q13 :: .ref q14 :: .ref q15 :: .int 0 :: .ref q16 :: .ref q17 :: .ref q18 :: .int 0 :: .int 0 :: .int 0 :: .int 0 :: .int 0 :: .int 0 :: .null :: .null :: .int 0 :: .int 0 :: .int 0 :: []))), (q0, .inl (K 0, 7, .inl (fun _ => 0))), (q1, .inl (K 0, 5714, .inl (fun _ => 0))), (q2, .inl (K 0, 11428, .inl (fun _ => 0))), (q3, .inl (K 2, 2, .inl (fun _ => 0))), (q4, .inl (K 0, 46, .inl (fun _ => 0))), (q5, .inl (K 1, 146, .inl w145)), (q6, .inl (K 1, 400, .inl (fun _ => 0))), (q7, .inl (K 0, 5, .inl (fun _ => 0))), (q8, .inl (K 0, 401, .inl (fun _ => 0))), (q9, .inl (K 0, 401, .inl (fun _ => 0))), (q10, .inl (K 0, 401, .inl (fun _ => 0))), (q11, .inl (K 0, 10, .inl (fun _ => 0))), (q12, .inl (K 0, 6, .inl (fun _ => 0))), (q13, .inl (K 0, 6, .inl (fun _ => 0))), (q14, .inl (K 0, 384, .inl (fun _ => 0))), (q15, .inl (K 0, 384, .inl (fun _ => 0))), (q16, .inl (K 0, 10, .inl (fun _ => 0))), (q17, .inl (K 0, 1024, .inl (fun _ => 0))), (q18, .inl (K 0, 451, .inl (fun _ => 0)))] H := hP
  have hD : va_D A [(o, .inr (12, (.int 0 :: .ref q0 :: .ref q1 :: .ref q2 :: .ref q3 :: .ref q4 :: .int 0 :: .ref q5 :: .int 0 :: .int 0 :: .int 0 :: .ref q6 :: .ref q7 :: .int 0 :: .int (-1) :: .ref q8 :: .ref q9 :: .ref q10 :: .int 0 :: .int 0 :: .int 0 :: .int 0 :: .int 0 :: .int 0 :: .int 0 :: .int 0 :: .ref q11 :: .int 0 :: .int 0 :: .ref q12 :: .ref q13 :: .ref q14 :: .ref q15 :: .int 0 :: .ref q16 :: .ref q17 :: .ref q18 :: .int 0 :: .int 0 :: .int 0 :: .int 0 :: .int 0 :: .int 0 :: .null :: .null :: .int 0 :: .int 0 :: .int 0 :: []))), (q0, .inl (K 0, 7, .inl (fun _ => 0))), (q1, .inl (K 0, 5714, .inl (fun _ => 0))), (q2, .inl (K 0, 11428, .inl (fun _ => 0))), (q3, .inl (K 2, 2, .inl (fun _ => 0))), (q4, .inl (K 0, 46, .inl (fun _ => 0))), (q5, .inl (K 1, 146, .inl w145)), (q6, .inl (K 1, 400, .inl (fun _ => 0))), (q7, .inl (K 0, 5, .inl (fun _ => 0))), (q8, .inl (K 0, 401, .inl (fun _ => 0))), (q9, .inl (K 0, 401, .inl (fun _ => 0))), (q10, .inl (K 0, 401, .inl (fun _ => 0))), (q11, .inl (K 0, 10, .inl (fun _ => 0))), (q12, .inl (K 0, 6, .inl (fun _ => 0))), (q13, .inl (K 0, 6, .inl (fun _ => 0))), (q14, .inl (K 0, 384, .inl (fun _ => 0))), (q15, .inl (K 0, 384, .inl (fun _ => 0))), (q16, .inl (K 0, 10, .inl (fun _ => 0))), (q17, .inl (K 0, 1024, .inl (fun _ => 0))), (q18, .inl (K 0, 451, .inl (fun _ => 0)))] := hD
  refine lv_aload_n hx hb dX12_init_1058 rfl (lv_at hl 0 rfl) ?_
  refine lv_iconst (v := (-1)) hx hb dX12_init_1059 (by decide) ?_
  refine va_put (D := D) (ci := 12) (v := .int (-1)) (ty := .int) (C := RX12) (T := TX12) (N := 48) hx hb hg inC12 tyX12 tyX12_ok nmX12 hown hK hP hD hS 0 rfl rfl 37 (by decide) (hg _ wt5_197) (fun _ h9 => h9) rfl (by decide +kernel) rfl rfl (Nat.le_of_ble_eq_true rfl) dX12_init_1060 (fun H locs hP hD hS => ?_)
  have hP : va_P D vwCl [(o, .inr (12, (.int 0 :: .ref q0 :: .ref q1 :: .ref q2 :: .ref q3 :: .ref q4 :: .int 0 :: .ref q5 :: .int 0 :: .int 0 :: .int 0 :: .ref q6 :: .ref q7 :: .int 0 :: .int (-1) :: .ref q8 :: .ref q9 :: .ref q10 :: .int 0 :: .int 0 :: .int 0 :: .int 0 :: .int 0 :: .int 0 :: .int 0 :: .int 0 :: .ref q11 :: .int 0 :: .int 0 :: .ref q12 :: .ref q13 :: .ref q14 :: .ref q15 :: .int 0 :: .ref q16 :: .ref q17 :: .ref q18 :: .int (-1) :: .int 0 :: .int 0 :: .int 0 :: .int 0 :: .int 0 :: .null :: .null :: .int 0 :: .int 0 :: .int 0 :: []))), (q0, .inl (K 0, 7, .inl (fun _ => 0))), (q1, .inl (K 0, 5714, .inl (fun _ => 0))), (q2, .inl (K 0, 11428, .inl (fun _ => 0))), (q3, .inl (K 2, 2, .inl (fun _ => 0))), (q4, .inl (K 0, 46, .inl (fun _ => 0))), (q5, .inl (K 1, 146, .inl w145)), (q6, .inl (K 1, 400, .inl (fun _ => 0))), (q7, .inl (K 0, 5, .inl (fun _ => 0))), (q8, .inl (K 0, 401, .inl (fun _ => 0))), (q9, .inl (K 0, 401, .inl (fun _ => 0))), (q10, .inl (K 0, 401, .inl (fun _ => 0))), (q11, .inl (K 0, 10, .inl (fun _ => 0))), (q12, .inl (K 0, 6, .inl (fun _ => 0))), (q13, .inl (K 0, 6, .inl (fun _ => 0))), (q14, .inl (K 0, 384, .inl (fun _ => 0))), (q15, .inl (K 0, 384, .inl (fun _ => 0))), (q16, .inl (K 0, 10, .inl (fun _ => 0))), (q17, .inl (K 0, 1024, .inl (fun _ => 0))), (q18, .inl (K 0, 451, .inl (fun _ => 0)))] H := hP
  have hD : va_D A [(o, .inr (12, (.int 0 :: .ref q0 :: .ref q1 :: .ref q2 :: .ref q3 :: .ref q4 :: .int 0 :: .ref q5 :: .int 0 :: .int 0 :: .int 0 :: .ref q6 :: .ref q7 :: .int 0 :: .int (-1) :: .ref q8 :: .ref q9 :: .ref q10 :: .int 0 :: .int 0 :: .int 0 :: .int 0 :: .int 0 :: .int 0 :: .int 0 :: .int 0 :: .ref q11 :: .int 0 :: .int 0 :: .ref q12 :: .ref q13 :: .ref q14 :: .ref q15 :: .int 0 :: .ref q16 :: .ref q17 :: .ref q18 :: .int (-1) :: .int 0 :: .int 0 :: .int 0 :: .int 0 :: .int 0 :: .null :: .null :: .int 0 :: .int 0 :: .int 0 :: []))), (q0, .inl (K 0, 7, .inl (fun _ => 0))), (q1, .inl (K 0, 5714, .inl (fun _ => 0))), (q2, .inl (K 0, 11428, .inl (fun _ => 0))), (q3, .inl (K 2, 2, .inl (fun _ => 0))), (q4, .inl (K 0, 46, .inl (fun _ => 0))), (q5, .inl (K 1, 146, .inl w145)), (q6, .inl (K 1, 400, .inl (fun _ => 0))), (q7, .inl (K 0, 5, .inl (fun _ => 0))), (q8, .inl (K 0, 401, .inl (fun _ => 0))), (q9, .inl (K 0, 401, .inl (fun _ => 0))), (q10, .inl (K 0, 401, .inl (fun _ => 0))), (q11, .inl (K 0, 10, .inl (fun _ => 0))), (q12, .inl (K 0, 6, .inl (fun _ => 0))), (q13, .inl (K 0, 6, .inl (fun _ => 0))), (q14, .inl (K 0, 384, .inl (fun _ => 0))), (q15, .inl (K 0, 384, .inl (fun _ => 0))), (q16, .inl (K 0, 10, .inl (fun _ => 0))), (q17, .inl (K 0, 1024, .inl (fun _ => 0))), (q18, .inl (K 0, 451, .inl (fun _ => 0)))] := hD
  refine lv_aload_n hx hb dX12_init_1063 rfl (lv_at hl 0 rfl) ?_
  refine lv_iconst (v := 2) hx hb dX12_init_1064 (by decide) ?_
  refine k_newa (atype := .long) (a0 := (2, .inr (.inl (fun _ => 0)))) hx hb (hg _ wt1_78) rfl hK hP hD hS hA 3 rfl (fun _ => rfl) (by decide) (by decide +kernel) (by decide) (by decide) (by decide) dX12_init_1065 (fun q19 H hP hD hS => ?_)
  have hP : va_P D vwCl [(o, .inr (12, (.int 0 :: .ref q0 :: .ref q1 :: .ref q2 :: .ref q3 :: .ref q4 :: .int 0 :: .ref q5 :: .int 0 :: .int 0 :: .int 0 :: .ref q6 :: .ref q7 :: .int 0 :: .int (-1) :: .ref q8 :: .ref q9 :: .ref q10 :: .int 0 :: .int 0 :: .int 0 :: .int 0 :: .int 0 :: .int 0 :: .int 0 :: .int 0 :: .ref q11 :: .int 0 :: .int 0 :: .ref q12 :: .ref q13 :: .ref q14 :: .ref q15 :: .int 0 :: .ref q16 :: .ref q17 :: .ref q18 :: .int (-1) :: .int 0 :: .int 0 :: .int 0 :: .int 0 :: .int 0 :: .null :: .null :: .int 0 :: .int 0 :: .int 0 :: []))), (q0, .inl (K 0, 7, .inl (fun _ => 0))), (q1, .inl (K 0, 5714, .inl (fun _ => 0))), (q2, .inl (K 0, 11428, .inl (fun _ => 0))), (q3, .inl (K 2, 2, .inl (fun _ => 0))), (q4, .inl (K 0, 46, .inl (fun _ => 0))), (q5, .inl (K 1, 146, .inl w145)), (q6, .inl (K 1, 400, .inl (fun _ => 0))), (q7, .inl (K 0, 5, .inl (fun _ => 0))), (q8, .inl (K 0, 401, .inl (fun _ => 0))), (q9, .inl (K 0, 401, .inl (fun _ => 0))), (q10, .inl (K 0, 401, .inl (fun _ => 0))), (q11, .inl (K 0, 10, .inl (fun _ => 0))), (q12, .inl (K 0, 6, .inl (fun _ => 0))), (q13, .inl (K 0, 6, .inl (fun _ => 0))), (q14, .inl (K 0, 384, .inl (fun _ => 0))), (q15, .inl (K 0, 384, .inl (fun _ => 0))), (q16, .inl (K 0, 10, .inl (fun _ => 0))), (q17, .inl (K 0, 1024, .inl (fun _ => 0))), (q18, .inl (K 0, 451, .inl (fun _ => 0))), (q19, .inl (K 3, 2, .inr (.inl (fun _ => 0))))] H := hP
  have hD : va_D A [(o, .inr (12, (.int 0 :: .ref q0 :: .ref q1 :: .ref q2 :: .ref q3 :: .ref q4 :: .int 0 :: .ref q5 :: .int 0 :: .int 0 :: .int 0 :: .ref q6 :: .ref q7 :: .int 0 :: .int (-1) :: .ref q8 :: .ref q9 :: .ref q10 :: .int 0 :: .int 0 :: .int 0 :: .int 0 :: .int 0 :: .int 0 :: .int 0 :: .int 0 :: .ref q11 :: .int 0 :: .int 0 :: .ref q12 :: .ref q13 :: .ref q14 :: .ref q15 :: .int 0 :: .ref q16 :: .ref q17 :: .ref q18 :: .int (-1) :: .int 0 :: .int 0 :: .int 0 :: .int 0 :: .int 0 :: .null :: .null :: .int 0 :: .int 0 :: .int 0 :: []))), (q0, .inl (K 0, 7, .inl (fun _ => 0))), (q1, .inl (K 0, 5714, .inl (fun _ => 0))), (q2, .inl (K 0, 11428, .inl (fun _ => 0))), (q3, .inl (K 2, 2, .inl (fun _ => 0))), (q4, .inl (K 0, 46, .inl (fun _ => 0))), (q5, .inl (K 1, 146, .inl w145)), (q6, .inl (K 1, 400, .inl (fun _ => 0))), (q7, .inl (K 0, 5, .inl (fun _ => 0))), (q8, .inl (K 0, 401, .inl (fun _ => 0))), (q9, .inl (K 0, 401, .inl (fun _ => 0))), (q10, .inl (K 0, 401, .inl (fun _ => 0))), (q11, .inl (K 0, 10, .inl (fun _ => 0))), (q12, .inl (K 0, 6, .inl (fun _ => 0))), (q13, .inl (K 0, 6, .inl (fun _ => 0))), (q14, .inl (K 0, 384, .inl (fun _ => 0))), (q15, .inl (K 0, 384, .inl (fun _ => 0))), (q16, .inl (K 0, 10, .inl (fun _ => 0))), (q17, .inl (K 0, 1024, .inl (fun _ => 0))), (q18, .inl (K 0, 451, .inl (fun _ => 0))), (q19, .inl (K 3, 2, .inr (.inl (fun _ => 0))))] := hD
  refine va_putF (D := D) (ci := 12) (v := .ref q19) (ty := (.array .long)) (C := RX12) (T := TX12) (N := 48) hx hb hg inC12 tyX12 tyX12_ok nmX12 hown hK hP hD hS 0 rfl rfl 43 (by decide) (hg _ wt5_203) (fun _ h9 => h9) rfl hin rfl (by decide +kernel) rfl rfl (Nat.le_of_ble_eq_true rfl) dX12_init_1067 (fun H locs hP hD hS => ?_)
  have hP : va_P D vwCl [(o, .inr (12, (.int 0 :: .ref q0 :: .ref q1 :: .ref q2 :: .ref q3 :: .ref q4 :: .int 0 :: .ref q5 :: .int 0 :: .int 0 :: .int 0 :: .ref q6 :: .ref q7 :: .int 0 :: .int (-1) :: .ref q8 :: .ref q9 :: .ref q10 :: .int 0 :: .int 0 :: .int 0 :: .int 0 :: .int 0 :: .int 0 :: .int 0 :: .int 0 :: .ref q11 :: .int 0 :: .int 0 :: .ref q12 :: .ref q13 :: .ref q14 :: .ref q15 :: .int 0 :: .ref q16 :: .ref q17 :: .ref q18 :: .int (-1) :: .int 0 :: .int 0 :: .int 0 :: .int 0 :: .int 0 :: .ref q19 :: .null :: .int 0 :: .int 0 :: .int 0 :: []))), (q0, .inl (K 0, 7, .inl (fun _ => 0))), (q1, .inl (K 0, 5714, .inl (fun _ => 0))), (q2, .inl (K 0, 11428, .inl (fun _ => 0))), (q3, .inl (K 2, 2, .inl (fun _ => 0))), (q4, .inl (K 0, 46, .inl (fun _ => 0))), (q5, .inl (K 1, 146, .inl w145)), (q6, .inl (K 1, 400, .inl (fun _ => 0))), (q7, .inl (K 0, 5, .inl (fun _ => 0))), (q8, .inl (K 0, 401, .inl (fun _ => 0))), (q9, .inl (K 0, 401, .inl (fun _ => 0))), (q10, .inl (K 0, 401, .inl (fun _ => 0))), (q11, .inl (K 0, 10, .inl (fun _ => 0))), (q12, .inl (K 0, 6, .inl (fun _ => 0))), (q13, .inl (K 0, 6, .inl (fun _ => 0))), (q14, .inl (K 0, 384, .inl (fun _ => 0))), (q15, .inl (K 0, 384, .inl (fun _ => 0))), (q16, .inl (K 0, 10, .inl (fun _ => 0))), (q17, .inl (K 0, 1024, .inl (fun _ => 0))), (q18, .inl (K 0, 451, .inl (fun _ => 0))), (q19, .inl (K 3, 2, .inr (.inl (fun _ => 0))))] H := hP
  have hD : va_D A [(o, .inr (12, (.int 0 :: .ref q0 :: .ref q1 :: .ref q2 :: .ref q3 :: .ref q4 :: .int 0 :: .ref q5 :: .int 0 :: .int 0 :: .int 0 :: .ref q6 :: .ref q7 :: .int 0 :: .int (-1) :: .ref q8 :: .ref q9 :: .ref q10 :: .int 0 :: .int 0 :: .int 0 :: .int 0 :: .int 0 :: .int 0 :: .int 0 :: .int 0 :: .ref q11 :: .int 0 :: .int 0 :: .ref q12 :: .ref q13 :: .ref q14 :: .ref q15 :: .int 0 :: .ref q16 :: .ref q17 :: .ref q18 :: .int (-1) :: .int 0 :: .int 0 :: .int 0 :: .int 0 :: .int 0 :: .ref q19 :: .null :: .int 0 :: .int 0 :: .int 0 :: []))), (q0, .inl (K 0, 7, .inl (fun _ => 0))), (q1, .inl (K 0, 5714, .inl (fun _ => 0))), (q2, .inl (K 0, 11428, .inl (fun _ => 0))), (q3, .inl (K 2, 2, .inl (fun _ => 0))), (q4, .inl (K 0, 46, .inl (fun _ => 0))), (q5, .inl (K 1, 146, .inl w145)), (q6, .inl (K 1, 400, .inl (fun _ => 0))), (q7, .inl (K 0, 5, .inl (fun _ => 0))), (q8, .inl (K 0, 401, .inl (fun _ => 0))), (q9, .inl (K 0, 401, .inl (fun _ => 0))), (q10, .inl (K 0, 401, .inl (fun _ => 0))), (q11, .inl (K 0, 10, .inl (fun _ => 0))), (q12, .inl (K 0, 6, .inl (fun _ => 0))), (q13, .inl (K 0, 6, .inl (fun _ => 0))), (q14, .inl (K 0, 384, .inl (fun _ => 0))), (q15, .inl (K 0, 384, .inl (fun _ => 0))), (q16, .inl (K 0, 10, .inl (fun _ => 0))), (q17, .inl (K 0, 1024, .inl (fun _ => 0))), (q18, .inl (K 0, 451, .inl (fun _ => 0))), (q19, .inl (K 3, 2, .inr (.inl (fun _ => 0))))] := hD
  refine lv_aload_n hx hb dX12_init_1070 rfl (lv_at hl 0 rfl) ?_
  refine lv_bipush (v := 23) hx hb dX12_init_1071 (by decide) ?_
  refine k_newa (atype := .int) (a0 := (23, .inl (fun _ => 0))) hx hb (hg _ wt1_77) rfl hK hP hD hS hA 0 rfl (fun _ => rfl) (by decide) (by decide +kernel) (by decide) (by decide) (by decide) dX12_init_1073 (fun q20 H hP hD hS => ?_)
  have hP : va_P D vwCl [(o, .inr (12, (.int 0 :: .ref q0 :: .ref q1 :: .ref q2 :: .ref q3 :: .ref q4 :: .int 0 :: .ref q5 :: .int 0 :: .int 0 :: .int 0 :: .ref q6 :: .ref q7 :: .int 0 :: .int (-1) :: .ref q8 :: .ref q9 :: .ref q10 :: .int 0 :: .int 0 :: .int 0 :: .int 0 :: .int 0 :: .int 0 :: .int 0 :: .int 0 :: .ref q11 :: .int 0 :: .int 0 :: .ref q12 :: .ref q13 :: .ref q14 :: .ref q15 :: .int 0 :: .ref q16 :: .ref q17 :: .ref q18 :: .int (-1) :: .int 0 :: .int 0 :: .int 0 :: .int 0 :: .int 0 :: .ref q19 :: .null :: .int 0 :: .int 0 :: .int 0 :: []))), (q0, .inl (K 0, 7, .inl (fun _ => 0))), (q1, .inl (K 0, 5714, .inl (fun _ => 0))), (q2, .inl (K 0, 11428, .inl (fun _ => 0))), (q3, .inl (K 2, 2, .inl (fun _ => 0))), (q4, .inl (K 0, 46, .inl (fun _ => 0))), (q5, .inl (K 1, 146, .inl w145)), (q6, .inl (K 1, 400, .inl (fun _ => 0))), (q7, .inl (K 0, 5, .inl (fun _ => 0))), (q8, .inl (K 0, 401, .inl (fun _ => 0))), (q9, .inl (K 0, 401, .inl (fun _ => 0))), (q10, .inl (K 0, 401, .inl (fun _ => 0))), (q11, .inl (K 0, 10, .inl (fun _ => 0))), (q12, .inl (K 0, 6, .inl (fun _ => 0))), (q13, .inl (K 0, 6, .inl (fun _ => 0))), (q14, .inl (K 0, 384, .inl (fun _ => 0))), (q15, .inl (K 0, 384, .inl (fun _ => 0))), (q16, .inl (K 0, 10, .inl (fun _ => 0))), (q17, .inl (K 0, 1024, .inl (fun _ => 0))), (q18, .inl (K 0, 451, .inl (fun _ => 0))), (q19, .inl (K 3, 2, .inr (.inl (fun _ => 0)))), (q20, .inl (K 0, 23, .inl (fun _ => 0)))] H := hP
  have hD : va_D A [(o, .inr (12, (.int 0 :: .ref q0 :: .ref q1 :: .ref q2 :: .ref q3 :: .ref q4 :: .int 0 :: .ref q5 :: .int 0 :: .int 0 :: .int 0 :: .ref q6 :: .ref q7 :: .int 0 :: .int (-1) :: .ref q8 :: .ref q9 :: .ref q10 :: .int 0 :: .int 0 :: .int 0 :: .int 0 :: .int 0 :: .int 0 :: .int 0 :: .int 0 :: .ref q11 :: .int 0 :: .int 0 :: .ref q12 :: .ref q13 :: .ref q14 :: .ref q15 :: .int 0 :: .ref q16 :: .ref q17 :: .ref q18 :: .int (-1) :: .int 0 :: .int 0 :: .int 0 :: .int 0 :: .int 0 :: .ref q19 :: .null :: .int 0 :: .int 0 :: .int 0 :: []))), (q0, .inl (K 0, 7, .inl (fun _ => 0))), (q1, .inl (K 0, 5714, .inl (fun _ => 0))), (q2, .inl (K 0, 11428, .inl (fun _ => 0))), (q3, .inl (K 2, 2, .inl (fun _ => 0))), (q4, .inl (K 0, 46, .inl (fun _ => 0))), (q5, .inl (K 1, 146, .inl w145)), (q6, .inl (K 1, 400, .inl (fun _ => 0))), (q7, .inl (K 0, 5, .inl (fun _ => 0))), (q8, .inl (K 0, 401, .inl (fun _ => 0))), (q9, .inl (K 0, 401, .inl (fun _ => 0))), (q10, .inl (K 0, 401, .inl (fun _ => 0))), (q11, .inl (K 0, 10, .inl (fun _ => 0))), (q12, .inl (K 0, 6, .inl (fun _ => 0))), (q13, .inl (K 0, 6, .inl (fun _ => 0))), (q14, .inl (K 0, 384, .inl (fun _ => 0))), (q15, .inl (K 0, 384, .inl (fun _ => 0))), (q16, .inl (K 0, 10, .inl (fun _ => 0))), (q17, .inl (K 0, 1024, .inl (fun _ => 0))), (q18, .inl (K 0, 451, .inl (fun _ => 0))), (q19, .inl (K 3, 2, .inr (.inl (fun _ => 0)))), (q20, .inl (K 0, 23, .inl (fun _ => 0)))] := hD
  refine va_putF (D := D) (ci := 12) (v := .ref q20) (ty := (.array .int)) (C := RX12) (T := TX12) (N := 48) hx hb hg inC12 tyX12 tyX12_ok nmX12 hown hK hP hD hS 0 rfl rfl 44 (by decide) (hg _ wt5_204) (fun _ h9 => h9) rfl hin rfl (by decide +kernel) rfl rfl (Nat.le_of_ble_eq_true rfl) dX12_init_1075 (fun H locs hP hD hS => ?_)
  have hP : va_P D vwCl [(o, .inr (12, (.int 0 :: .ref q0 :: .ref q1 :: .ref q2 :: .ref q3 :: .ref q4 :: .int 0 :: .ref q5 :: .int 0 :: .int 0 :: .int 0 :: .ref q6 :: .ref q7 :: .int 0 :: .int (-1) :: .ref q8 :: .ref q9 :: .ref q10 :: .int 0 :: .int 0 :: .int 0 :: .int 0 :: .int 0 :: .int 0 :: .int 0 :: .int 0 :: .ref q11 :: .int 0 :: .int 0 :: .ref q12 :: .ref q13 :: .ref q14 :: .ref q15 :: .int 0 :: .ref q16 :: .ref q17 :: .ref q18 :: .int (-1) :: .int 0 :: .int 0 :: .int 0 :: .int 0 :: .int 0 :: .ref q19 :: .ref q20 :: .int 0 :: .int 0 :: .int 0 :: []))), (q0, .inl (K 0, 7, .inl (fun _ => 0))), (q1, .inl (K 0, 5714, .inl (fun _ => 0))), (q2, .inl (K 0, 11428, .inl (fun _ => 0))), (q3, .inl (K 2, 2, .inl (fun _ => 0))), (q4, .inl (K 0, 46, .inl (fun _ => 0))), (q5, .inl (K 1, 146, .inl w145)), (q6, .inl (K 1, 400, .inl (fun _ => 0))), (q7, .inl (K 0, 5, .inl (fun _ => 0))), (q8, .inl (K 0, 401, .inl (fun _ => 0))), (q9, .inl (K 0, 401, .inl (fun _ => 0))), (q10, .inl (K 0, 401, .inl (fun _ => 0))), (q11, .inl (K 0, 10, .inl (fun _ => 0))), (q12, .inl (K 0, 6, .inl (fun _ => 0))), (q13, .inl (K 0, 6, .inl (fun _ => 0))), (q14, .inl (K 0, 384, .inl (fun _ => 0))), (q15, .inl (K 0, 384, .inl (fun _ => 0))), (q16, .inl (K 0, 10, .inl (fun _ => 0))), (q17, .inl (K 0, 1024, .inl (fun _ => 0))), (q18, .inl (K 0, 451, .inl (fun _ => 0))), (q19, .inl (K 3, 2, .inr (.inl (fun _ => 0)))), (q20, .inl (K 0, 23, .inl (fun _ => 0)))] H := hP
  have hD : va_D A [(o, .inr (12, (.int 0 :: .ref q0 :: .ref q1 :: .ref q2 :: .ref q3 :: .ref q4 :: .int 0 :: .ref q5 :: .int 0 :: .int 0 :: .int 0 :: .ref q6 :: .ref q7 :: .int 0 :: .int (-1) :: .ref q8 :: .ref q9 :: .ref q10 :: .int 0 :: .int 0 :: .int 0 :: .int 0 :: .int 0 :: .int 0 :: .int 0 :: .int 0 :: .ref q11 :: .int 0 :: .int 0 :: .ref q12 :: .ref q13 :: .ref q14 :: .ref q15 :: .int 0 :: .ref q16 :: .ref q17 :: .ref q18 :: .int (-1) :: .int 0 :: .int 0 :: .int 0 :: .int 0 :: .int 0 :: .ref q19 :: .ref q20 :: .int 0 :: .int 0 :: .int 0 :: []))), (q0, .inl (K 0, 7, .inl (fun _ => 0))), (q1, .inl (K 0, 5714, .inl (fun _ => 0))), (q2, .inl (K 0, 11428, .inl (fun _ => 0))), (q3, .inl (K 2, 2, .inl (fun _ => 0))), (q4, .inl (K 0, 46, .inl (fun _ => 0))), (q5, .inl (K 1, 146, .inl w145)), (q6, .inl (K 1, 400, .inl (fun _ => 0))), (q7, .inl (K 0, 5, .inl (fun _ => 0))), (q8, .inl (K 0, 401, .inl (fun _ => 0))), (q9, .inl (K 0, 401, .inl (fun _ => 0))), (q10, .inl (K 0, 401, .inl (fun _ => 0))), (q11, .inl (K 0, 10, .inl (fun _ => 0))), (q12, .inl (K 0, 6, .inl (fun _ => 0))), (q13, .inl (K 0, 6, .inl (fun _ => 0))), (q14, .inl (K 0, 384, .inl (fun _ => 0))), (q15, .inl (K 0, 384, .inl (fun _ => 0))), (q16, .inl (K 0, 10, .inl (fun _ => 0))), (q17, .inl (K 0, 1024, .inl (fun _ => 0))), (q18, .inl (K 0, 451, .inl (fun _ => 0))), (q19, .inl (K 3, 2, .inr (.inl (fun _ => 0)))), (q20, .inl (K 0, 23, .inl (fun _ => 0)))] := hD
  refine lv_aload_n hx hb dX12_init_1078 rfl (lv_at hl 0 rfl) ?_
  refine lv_iconst (v := (-1)) hx hb dX12_init_1079 (by decide) ?_
  refine va_put (D := D) (ci := 12) (v := .int (-1)) (ty := .int) (C := RX12) (T := TX12) (N := 48) hx hb hg inC12 tyX12 tyX12_ok nmX12 hown hK hP hD hS 0 rfl rfl 45 (by decide) (hg _ wt5_205) (fun _ h9 => h9) rfl (by decide +kernel) rfl rfl (Nat.le_of_ble_eq_true rfl) dX12_init_1080 (fun H locs hP hD hS => ?_)
  have hP : va_P D vwCl [(o, .inr (12, (.int 0 :: .ref q0 :: .ref q1 :: .ref q2 :: .ref q3 :: .ref q4 :: .int 0 :: .ref q5 :: .int 0 :: .int 0 :: .int 0 :: .ref q6 :: .ref q7 :: .int 0 :: .int (-1) :: .ref q8 :: .ref q9 :: .ref q10 :: .int 0 :: .int 0 :: .int 0 :: .int 0 :: .int 0 :: .int 0 :: .int 0 :: .int 0 :: .ref q11 :: .int 0 :: .int 0 :: .ref q12 :: .ref q13 :: .ref q14 :: .ref q15 :: .int 0 :: .ref q16 :: .ref q17 :: .ref q18 :: .int (-1) :: .int 0 :: .int 0 :: .int 0 :: .int 0 :: .int 0 :: .ref q19 :: .ref q20 :: .int (-1) :: .int 0 :: .int 0 :: []))), (q0, .inl (K 0, 7, .inl (fun _ => 0))), (q1, .inl (K 0, 5714, .inl (fun _ => 0))), (q2, .inl (K 0, 11428, .inl (fun _ => 0))), (q3, .inl (K 2, 2, .inl (fun _ => 0))), (q4, .inl (K 0, 46, .inl (fun _ => 0))), (q5, .inl (K 1, 146, .inl w145)), (q6, .inl (K 1, 400, .inl (fun _ => 0))), (q7, .inl (K 0, 5, .inl (fun _ => 0))), (q8, .inl (K 0, 401, .inl (fun _ => 0))), (q9, .inl (K 0, 401, .inl (fun _ => 0))), (q10, .inl (K 0, 401, .inl (fun _ => 0))), (q11, .inl (K 0, 10, .inl (fun _ => 0))), (q12, .inl (K 0, 6, .inl (fun _ => 0))), (q13, .inl (K 0, 6, .inl (fun _ => 0))), (q14, .inl (K 0, 384, .inl (fun _ => 0))), (q15, .inl (K 0, 384, .inl (fun _ => 0))), (q16, .inl (K 0, 10, .inl (fun _ => 0))), (q17, .inl (K 0, 1024, .inl (fun _ => 0))), (q18, .inl (K 0, 451, .inl (fun _ => 0))), (q19, .inl (K 3, 2, .inr (.inl (fun _ => 0)))), (q20, .inl (K 0, 23, .inl (fun _ => 0)))] H := hP
  have hD : va_D A [(o, .inr (12, (.int 0 :: .ref q0 :: .ref q1 :: .ref q2 :: .ref q3 :: .ref q4 :: .int 0 :: .ref q5 :: .int 0 :: .int 0 :: .int 0 :: .ref q6 :: .ref q7 :: .int 0 :: .int (-1) :: .ref q8 :: .ref q9 :: .ref q10 :: .int 0 :: .int 0 :: .int 0 :: .int 0 :: .int 0 :: .int 0 :: .int 0 :: .int 0 :: .ref q11 :: .int 0 :: .int 0 :: .ref q12 :: .ref q13 :: .ref q14 :: .ref q15 :: .int 0 :: .ref q16 :: .ref q17 :: .ref q18 :: .int (-1) :: .int 0 :: .int 0 :: .int 0 :: .int 0 :: .int 0 :: .ref q19 :: .ref q20 :: .int (-1) :: .int 0 :: .int 0 :: []))), (q0, .inl (K 0, 7, .inl (fun _ => 0))), (q1, .inl (K 0, 5714, .inl (fun _ => 0))), (q2, .inl (K 0, 11428, .inl (fun _ => 0))), (q3, .inl (K 2, 2, .inl (fun _ => 0))), (q4, .inl (K 0, 46, .inl (fun _ => 0))), (q5, .inl (K 1, 146, .inl w145)), (q6, .inl (K 1, 400, .inl (fun _ => 0))), (q7, .inl (K 0, 5, .inl (fun _ => 0))), (q8, .inl (K 0, 401, .inl (fun _ => 0))), (q9, .inl (K 0, 401, .inl (fun _ => 0))), (q10, .inl (K 0, 401, .inl (fun _ => 0))), (q11, .inl (K 0, 10, .inl (fun _ => 0))), (q12, .inl (K 0, 6, .inl (fun _ => 0))), (q13, .inl (K 0, 6, .inl (fun _ => 0))), (q14, .inl (K 0, 384, .inl (fun _ => 0))), (q15, .inl (K 0, 384, .inl (fun _ => 0))), (q16, .inl (K 0, 10, .inl (fun _ => 0))), (q17, .inl (K 0, 1024, .inl (fun _ => 0))), (q18, .inl (K 0, 451, .inl (fun _ => 0))), (q19, .inl (K 3, 2, .inr (.inl (fun _ => 0)))), (q20, .inl (K 0, 23, .inl (fun _ => 0)))] := hD
  exact c_init_t2 l hx hb hr hml hown hg hlocks hK hA (fun k => [0, q0, q1, q2, q3, q4, 0, q5, 0, 0, 0, q6, q7, 0, 0, q8, q9, q10, 0, 0, 0, 0, 0, 0, 0, 0, q11, 0, 0, q12, q13, q14, q15, 0, q16, q17, q18, 0, 0, 0, 0, 0, 0, q19, q20, 0, 0, 0].getD k 0) (upd (upd (upd (fun _ => 0) 14 (-1)) 37 (-1)) 45 (-1)) (va_up (fun _ _ => 0) 7 w145) (fun _ => 0) _ _ _ (mI_0 hW) rfl rfl rfl rfl rfl rfl rfl rfl rfl rfl hP hD hS hl
