theorem dX12_rows_0 : decode cX12_rows 0 = .ok (.iload_n 1, 1) := by decide +kernel
theorem dX12_rows_1 : decode cX12_rows 1 = .ok (.iconst (-1), 1) := by decide +kernel
theorem dX12_rows_2 : decode cX12_rows 2 = .ok (.if_icmp .ge 5, 3) := by decide +kernel
theorem dX12_rows_5 : decode cX12_rows 5 = .ok (.iconst (-1), 1) := by decide +kernel
theorem dX12_rows_6 : decode cX12_rows 6 = .ok (.ireturn, 1) := by decide +kernel
theorem dX12_rows_7 : decode cX12_rows 7 = .ok (.aload_n 0, 1) := by decide +kernel
theorem dX12_rows_8 : decode cX12_rows 8 = .ok (.invokevirtual 369, 3) := by decide +kernel
theorem dX12_rows_11 : decode cX12_rows 11 = .ok (.aload_n 0, 1) := by decide +kernel
theorem dX12_rows_12 : decode cX12_rows 12 = .ok (.invokevirtual 118, 3) := by decide +kernel
theorem dX12_rows_15 : decode cX12_rows 15 = .ok (.istore_n 3, 1) := by decide +kernel
theorem dX12_rows_16 : decode cX12_rows 16 = .ok (.iload_n 1, 1) := by decide +kernel
theorem dX12_rows_17 : decode cX12_rows 17 = .ok (.iconst (-1), 1) := by decide +kernel
theorem dX12_rows_18 : decode cX12_rows 18 = .ok (.if_icmp .ne 10, 3) := by decide +kernel
theorem dX12_rows_21 : decode cX12_rows 21 = .ok (.aload_n 0, 1) := by decide +kernel
theorem dX12_rows_22 : decode cX12_rows 22 = .ok (.getfield 77, 3) := by decide +kernel
theorem dX12_rows_25 : decode cX12_rows 25 = .ok (.iload_n 3, 1) := by decide +kernel
theorem dX12_rows_26 : decode cX12_rows 26 = .ok (.iaload, 1) := by decide +kernel
theorem dX12_rows_27 : decode cX12_rows 27 = .ok (.ireturn, 1) := by decide +kernel
theorem dX12_rows_28 : decode cX12_rows 28 = .ok (.iload_n 1, 1) := by decide +kernel
theorem dX12_rows_29 : decode cX12_rows 29 = .ok (.istore 4, 2) := by decide +kernel
theorem dX12_rows_31 : decode cX12_rows 31 = .ok (.iload_n 1, 1) := by decide +kernel
theorem dX12_rows_32 : decode cX12_rows 32 = .ok (.aload_n 0, 1) := by decide +kernel
theorem dX12_rows_33 : decode cX12_rows 33 = .ok (.getfield 77, 3) := by decide +kernel
theorem dX12_rows_36 : decode cX12_rows 36 = .ok (.iload_n 3, 1) := by decide +kernel
theorem dX12_rows_37 : decode cX12_rows 37 = .ok (.iaload, 1) := by decide +kernel
theorem dX12_rows_38 : decode cX12_rows 38 = .ok (.if_icmp .ge 25, 3) := by decide +kernel
theorem dX12_rows_41 : decode cX12_rows 41 = .ok (.iload_n 2, 1) := by decide +kernel
theorem dX12_rows_42 : decode cX12_rows 42 = .ok (.iconst 0, 1) := by decide +kernel
theorem dX12_rows_43 : decode cX12_rows 43 = .ok (.aload_n 0, 1) := by decide +kernel
theorem dX12_rows_44 : decode cX12_rows 44 = .ok (.getfield 24, 3) := by decide +kernel
theorem dX12_rows_47 : decode cX12_rows 47 = .ok (.bipush 102, 2) := by decide +kernel
theorem dX12_rows_49 : decode cX12_rows 49 = .ok (.iaload, 1) := by decide +kernel
theorem dX12_rows_50 : decode cX12_rows 50 = .ok (.iload_n 3, 1) := by decide +kernel
theorem dX12_rows_51 : decode cX12_rows 51 = .ok (.invokestatic 287, 3) := by decide +kernel
theorem dX12_rows_54 : decode cX12_rows 54 = .ok (.isub, 1) := by decide +kernel
theorem dX12_rows_55 : decode cX12_rows 55 = .ok (.iconst 1, 1) := by decide +kernel
theorem dX12_rows_56 : decode cX12_rows 56 = .ok (.isub, 1) := by decide +kernel
theorem dX12_rows_57 : decode cX12_rows 57 = .ok (.invokestatic 96, 3) := by decide +kernel
theorem dX12_rows_60 : decode cX12_rows 60 = .ok (.ifCond .ne 5, 3) := by decide +kernel
theorem dX12_rows_63 : decode cX12_rows 63 = .ok (.iconst (-1), 1) := by decide +kernel
theorem dX12_rows_64 : decode cX12_rows 64 = .ok (.ireturn, 1) := by decide +kernel
theorem dX12_rows_65 : decode cX12_rows 65 = .ok (.iconst (-1), 1) := by decide +kernel
theorem dX12_rows_66 : decode cX12_rows 66 = .ok (.istore 5, 2) := by decide +kernel
theorem dX12_rows_68 : decode cX12_rows 68 = .ok (.iconst 0, 1) := by decide +kernel
theorem dX12_rows_69 : decode cX12_rows 69 = .ok (.istore 6, 2) := by decide +kernel
theorem dX12_rows_71 : decode cX12_rows 71 = .ok (.iload 6, 2) := by decide +kernel
theorem dX12_rows_73 : decode cX12_rows 73 = .ok (.iload_n 2, 1) := by decide +kernel
theorem dX12_rows_74 : decode cX12_rows 74 = .ok (.if_icmp .gt 81, 3) := by decide +kernel
theorem dX12_rows_77 : decode cX12_rows 77 = .ok (.iconst 0, 1) := by decide +kernel
theorem dX12_rows_78 : decode cX12_rows 78 = .ok (.istore 5, 2) := by decide +kernel
theorem dX12_rows_80 : decode cX12_rows 80 = .ok (.aload_n 0, 1) := by decide +kernel
theorem dX12_rows_81 : decode cX12_rows 81 = .ok (.iload_n 3, 1) := by decide +kernel
theorem dX12_rows_82 : decode cX12_rows 82 = .ok (.iload 5, 2) := by decide +kernel
theorem dX12_rows_84 : decode cX12_rows 84 = .ok (.invokevirtual 366, 3) := by decide +kernel
theorem dX12_rows_87 : decode cX12_rows 87 = .ok (.ifCond .eq 19, 3) := by decide +kernel
theorem dX12_rows_90 : decode cX12_rows 90 = .ok (.iload 4, 2) := by decide +kernel
theorem dX12_rows_92 : decode cX12_rows 92 = .ok (.aload_n 0, 1) := by decide +kernel
theorem dX12_rows_93 : decode cX12_rows 93 = .ok (.getfield 77, 3) := by decide +kernel
theorem dX12_rows_96 : decode cX12_rows 96 = .ok (.iload_n 3, 1) := by decide +kernel
theorem dX12_rows_97 : decode cX12_rows 97 = .ok (.iconst 1, 1) := by decide +kernel
theorem dX12_rows_98 : decode cX12_rows 98 = .ok (.iload 5, 2) := by decide +kernel
theorem dX12_rows_100 : decode cX12_rows 100 = .ok (.ishl, 1) := by decide +kernel
theorem dX12_rows_101 : decode cX12_rows 101 = .ok (.ior, 1) := by decide +kernel
theorem dX12_rows_102 : decode cX12_rows 102 = .ok (.iaload, 1) := by decide +kernel
theorem dX12_rows_103 : decode cX12_rows 103 = .ok (.if_icmp .lt 39, 3) := by decide +kernel
theorem dX12_rows_106 : decode cX12_rows 106 = .ok (.iload 4, 2) := by decide +kernel
theorem dX12_rows_108 : decode cX12_rows 108 = .ok (.aload_n 0, 1) := by decide +kernel
theorem dX12_rows_109 : decode cX12_rows 109 = .ok (.iload_n 3, 1) := by decide +kernel
theorem dX12_rows_110 : decode cX12_rows 110 = .ok (.iload 5, 2) := by decide +kernel
theorem dX12_rows_112 : decode cX12_rows 112 = .ok (.invokevirtual 366, 3) := by decide +kernel
theorem dX12_rows_115 : decode cX12_rows 115 = .ok (.ifCond .eq 17, 3) := by decide +kernel
theorem dX12_rows_118 : decode cX12_rows 118 = .ok (.aload_n 0, 1) := by decide +kernel
theorem dX12_rows_119 : decode cX12_rows 119 = .ok (.getfield 77, 3) := by decide +kernel
theorem dX12_rows_122 : decode cX12_rows 122 = .ok (.iload_n 3, 1) := by decide +kernel
theorem dX12_rows_123 : decode cX12_rows 123 = .ok (.iconst 1, 1) := by decide +kernel
theorem dX12_rows_124 : decode cX12_rows 124 = .ok (.iload 5, 2) := by decide +kernel
theorem dX12_rows_126 : decode cX12_rows 126 = .ok (.ishl, 1) := by decide +kernel
theorem dX12_rows_127 : decode cX12_rows 127 = .ok (.ior, 1) := by decide +kernel
theorem dX12_rows_128 : decode cX12_rows 128 = .ok (.iaload, 1) := by decide +kernel
theorem dX12_rows_129 : decode cX12_rows 129 = .ok (.goto 4, 3) := by decide +kernel
theorem dX12_rows_132 : decode cX12_rows 132 = .ok (.iconst 0, 1) := by decide +kernel
theorem dX12_rows_133 : decode cX12_rows 133 = .ok (.isub, 1) := by decide +kernel
theorem dX12_rows_134 : decode cX12_rows 134 = .ok (.istore 4, 2) := by decide +kernel
theorem dX12_rows_136 : decode cX12_rows 136 = .ok (.iinc 5 1, 3) := by decide +kernel
theorem dX12_rows_139 : decode cX12_rows 139 = .ok (.goto (-59), 3) := by decide +kernel
theorem dX12_rows_142 : decode cX12_rows 142 = .ok (.iload_n 3, 1) := by decide +kernel
theorem dX12_rows_143 : decode cX12_rows 143 = .ok (.iconst 1, 1) := by decide +kernel
theorem dX12_rows_144 : decode cX12_rows 144 = .ok (.iload 5, 2) := by decide +kernel
theorem dX12_rows_146 : decode cX12_rows 146 = .ok (.ishl, 1) := by decide +kernel
theorem dX12_rows_147 : decode cX12_rows 147 = .ok (.ior, 1) := by decide +kernel
theorem dX12_rows_148 : decode cX12_rows 148 = .ok (.istore_n 3, 1) := by decide +kernel
theorem dX12_rows_149 : decode cX12_rows 149 = .ok (.iinc 6 1, 3) := by decide +kernel
theorem dX12_rows_152 : decode cX12_rows 152 = .ok (.goto (-81), 3) := by decide +kernel
theorem dX12_rows_155 : decode cX12_rows 155 = .ok (.iload 5, 2) := by decide +kernel
theorem dX12_rows_157 : decode cX12_rows 157 = .ok (.ireturn, 1) := by decide +kernel
theorem wt7_183 : Cond.methodLink RX12 369 yX12_laysOrders ∈ kG := kt7 183 rfl rfl
theorem wt7_185 : Cond.instanceMethod yX12_laysOrders ∈ kG := kt7 185 rfl rfl
theorem wp7_0 : Cond.selects RX12 yX12_laysOrders yX12_laysOrders ∈ kG := kp7 0 rfl rfl
theorem wt7_186 : Cond.code yX12_laysOrders cX12_laysOrders 5 none ∈ kG := kt7 186 rfl rfl
set_option maxHeartbeats 4000000 in
set_option maxRecDepth 100000 in
theorem m_rows  (l : Launch) {D : va_G} {K : Nat → ClassId} (o : Nat) (r : Nat → Nat) (f : Nat → Int32) (a : Nat → Nat → Int32) (g : Nat → Int64) (hI : mI f a) (x : Int32) (y : Int32)    : kI l yX12_rows (Cond.code yX12_rows cX12_rows 7 (some .int) :: kG) (rmD 4 0 0) D (tysK K) [.ref o, .int x, .int y] (mW K o r f a g) (fun v (u : mS) => kb (-2147483648) v 2147483647 ∧ mI u.1 u.2.1 ∧ mE (XR []) f a u.1 u.2.1 ∧ mZ [] [35] f a u.1 u.2.1) (fun u => mW K o r u.1 u.2.1 u.2.2) 0 0 := by
  refine kI.of (cc := cX12_rows) (maxL := 7) (ret := (some .int)) (by decide) rfl (Nat.le_of_ble_eq_true rfl) ?_
  intro p e s m below meth c A hx hb hr hml hown hts hlocks hnm hK hP hD hS hA ls hl
  have hE : mE (XR []) f a f a := mE_rf
  have hZ : mZ [] [35] f a f a := mZ_rf
  have hg : ∀ w ∈ kG, w.before _ s = true := fun w h => hts w (List.mem_cons_of_mem _ h)
  have hown : s.vm.findClass RX12 = some m.cls := hown
  have hl : lv_has ls 7 [(0, .ref o), (1, .int x), (2, .int y)] := hl
  have e00 : (0 : Int32).toInt = 0 := by decide +kernel
  obtain ⟨cN, ecN⟩ : ∃ z : Int32, z = a 2 102 := ⟨_, rfl⟩
  have b1 : kb 0 cN 10 := kb_eq ecN (aI_at hI.2.1 2 102 (by decide) (by decide))
  obtain ⟨N, hN⟩ : ∃ N : Nat, (N : Int) = cN.toInt := ⟨cN.toInt.toNat, by have w1 := (b1).1; omega⟩
  have hN10 : N ≤ 10 := by have w1 := (b1).2; omega
  have hp2 := p2 hN10
  refine lv_iload_n hx hb dX12_rows_0 rfl (lv_at hl 1 rfl) ?_
  refine lv_iconst (v := (-1)) hx hb dX12_rows_1 (by decide) ?_
  refine lv_icmp_ge (tgt := 7) hx hb dX12_rows_2 (by decide) (fun c2 => ?_) (fun c2 => ?_)
  · have h3 := (kc_le c2)
    have b4 : kb (-1) x 2147483647 := kr_le2 h3 kc_m1 (kb_any x)
    refine lv_aload_n hx hb dX12_rows_7 rfl (lv_at hl 0 rfl) ?_
    refine kV.callV (As := []) (rest := []) ⟨hx, hb, hml, hown, hg⟩ (m2_laysOrders l o r f a g hI   ) (cwV 0 hg (kgV wt7_183 wt7_185 wp7_0 wt1_14 wt7_186) rfl rfl rfl (by decide +kernel) ⟨by decide, by decide⟩) hK hP hD hS hA mIs [] rfl (wr := []) rfl rfl rfl (fun i h => by cases h) 0 12 rfl rfl rfl hl.1 rfl (Nat.le_of_ble_eq_true rfl) dX12_rows_8 ⟨Nat.le_refl _, Nat.le_refl _⟩ (fun u7 H locs hw5 hP hD hS => ?_)
    obtain ⟨f8, a9, g10⟩ := u7
    have hP : va_P D vwCl (mW K o r f8 a9 g10) H := hP
    have hD : va_D A (mW K o r f8 a9 g10) := hD
    have hI : mI f8 a9 := hw5.1
    have hE : mE (XR []) f a f8 a9 := mE_tr hE hw5.2.1
    have eE11 : mE (XR []) f a f8 a9 := hw5.2.1
    have eZ12 : mZ [] [35] f a f8 a9 := hw5.2.2.2
    have hZ : mZ [] [35] f a f8 a9 := mZ_tr hZ (mZ_w (by decide) (by decide) eZ12)
    have hK2 : a9 2 = a 2 := mE_all eE11
    have hNN : (a 2 102).toInt.toNat = N := by rw [← ecN]; omega
    have hO : oDn (a 2) N (a9 35) 0 := by rw [← hNN]; exact hw5.2.2.1
    refine lv_aload_n hx hb dX12_rows_11 rfl (lv_at hl 0 rfl) ?_
    refine kI.callV (As := []) (rest := []) ⟨hx, hb, hml, hown, hg⟩ (m2_standing l o r f8 a9 g10 hI   ) (cwV 0 hg (kgV wt6_116 wt6_118 wp3_13 wt1_14 wt6_119) rfl rfl rfl (by decide +kernel) ⟨by decide, by decide⟩) hK hP hD hS hA mIs [] rfl (wr := []) rfl rfl rfl (fun i h => by cases h) 0 12 rfl rfl rfl hl.1 rfl (Nat.le_of_ble_eq_true rfl) dX12_rows_12 ⟨Nat.le_refl _, Nat.le_refl _⟩ (fun v14 u15 H locs hw13 hP hD hS => ?_)
    have hP : va_P D vwCl (mW K o r f8 a9 g10) H := hP
    have hD : va_D A (mW K o r f8 a9 g10) := hD
    refine lv_istore_n (lv' := [(3, .int v14), (0, .ref o), (1, .int x), (2, .int y)]) hx hb dX12_rows_15 rfl hl (by decide) rfl (fun ls hl => ?_)
    obtain ⟨s0, hs0, hs1⟩ := hw13.2
    have hs1 : s0 < 2 ^ N := by rw [← hNN, ← hK2]; exact hs1
    refine lv_iload_n hx hb dX12_rows_16 rfl (lv_at hl 2 rfl) ?_
    refine lv_iconst (v := (-1)) hx hb dX12_rows_17 (by decide) ?_
    refine lv_icmp_ne (tgt := 28) hx hb dX12_rows_18 (by decide) (fun c16 => ?_) (fun c16 => ?_)
    · have b17 : kb 0 x 2147483647 := kr_nel c16 b4 kc_m1 (by decide)
      refine lv_iload_n hx hb dX12_rows_28 rfl (lv_at hl 2 rfl) ?_
      refine lv_istore (lv' := [(4, .int x), (3, .int v14), (0, .ref o), (1, .int x), (2, .int y)]) hx hb dX12_rows_29 hl (by decide) rfl (fun ls hl => ?_)
      refine lv_iload_n hx hb dX12_rows_31 rfl (lv_at hl 3 rfl) ?_
      refine lv_aload_n hx hb dX12_rows_32 rfl (lv_at hl 2 rfl) ?_
      refine va_get (D := D) (ci := 12) (v := .ref (r 35)) (C := RX12) (T := TX12) (N := 48) hx hb hg inC12 hown hK hP 0 rfl rfl 35 (by decide) (hg _ wt5_195) (fun _ h9 => h9) rfl dX12_rows_33 ?_
      refine lv_iload_n hx hb dX12_rows_36 rfl (lv_at hl 1 rfl) ?_
      refine va_iald hx hb hK hP 18 0 rfl rfl (kb_in hw13.1 (by decide) (by decide)) dX12_rows_37 ?_
      refine lv_topi (fun t18 et18 => ?_)
      have ho0 : a9 35 s0 = t18 := by have w1 : v14.toNatClampNeg = s0 := (by unfold Int32.toNatClampNeg; omega); rw [← w1]; exact et18.symm
      refine lv_icmp_ge (tgt := 63) hx hb dX12_rows_38 (by decide) (fun c19 => ?_) (fun c19 => ?_)
      · have h20 := (kc_le c19)
        refine lv_iconst (v := (-1)) hx hb dX12_rows_63 (by decide) ?_
        exact kI_ret (v := (-1)) hx hb hr hlocks rfl hK hS dX12_rows_64 (f8, a9, g10) hP hD ⟨(kb_w kc_m1 (by decide) (by decide)), hI, hE, hZ⟩
      · have h21 := (kc_nle c19)
        have b22 : kb 0 x 2147483646 := kr_lt1 h21 b17 (kb_any t18) (by decide)
        have b23 : kb 1 t18 2147483647 := kr_lt2 h21 b17 (kb_any t18) (by decide)
        refine lv_iload_n hx hb dX12_rows_41 rfl (lv_at hl 4 rfl) ?_
        refine lv_iconst (v := 0) hx hb dX12_rows_42 (by decide) ?_
        refine lv_aload_n hx hb dX12_rows_43 rfl (lv_at hl 2 rfl) ?_
        refine va_get (D := D) (ci := 12) (v := .ref (r 2)) (C := RX12) (T := TX12) (N := 48) hx hb hg inC12 hown hK hP 0 rfl rfl 2 (by decide) (hg _ wt5_162) (fun _ h9 => h9) rfl dX12_rows_44 ?_
        refine lv_bipush (v := 102) hx hb dX12_rows_47 (by decide) ?_
        refine va_iald hx hb hK hP 2 0 rfl rfl (kb_in kc_102 (by decide) (by decide)) dX12_rows_49 ?_
        refine k_top (z := cN) (by rw [cl_102]; exact ((eE11.2.2.1 (102) rfl).trans ecN.symm)) ?_
        refine lv_iload_n hx hb dX12_rows_50 rfl (lv_at hl 1 rfl) ?_
        refine kN.callS (As := [.int v14]) (rest := [.int cN, .int 0, .int y]) ⟨hx, hb, hml, hown, hg⟩ (m2_ones l v14 hw13.1) (va_cwS 1 hg (kgS wt7_71 wt7_72 wt1_14 wt7_73) rfl rfl rfl (by decide +kernel) ⟨by decide, by decide⟩) hP hS rfl hl.1 rfl (Nat.le_of_ble_eq_true rfl) dX12_rows_51 ⟨Nat.le_refl _, Nat.le_refl _⟩ (fun v25 H locs hw24 hP hS => ?_)
        refine lv_isub hx hb dX12_rows_54 ?_
        refine lv_topi (fun t27 et27 => ?_)
        have b28 : kb (-10) t27 10 := kb_eq et27 (kb_sub b1 hw24.1 (by decide) (by decide))
        have qt27 : t27.toInt = cN.toInt - v25.toInt := by rw [et27]; exact kt_sub b1 hw24.1 (by decide) (by decide)
        refine lv_iconst (v := 1) hx hb dX12_rows_55 (by decide) ?_
        refine lv_isub hx hb dX12_rows_56 ?_
        refine lv_topi (fun t29 et29 => ?_)
        have b30 : kb (-11) t29 9 := kb_eq et29 (kb_sub b28 kc_1 (by decide) (by decide))
        have qt29 : t29.toInt = t27.toInt - 1 := by rw [et29]; exact kt_subc b28 kc_1 (by decide) (by decide)
        refine kN.callS (As := [.int y, .int 0, .int t29]) (rest := []) ⟨hx, hb, hml, hown, hg⟩ (m_lies l y 0 t29 ) (va_cwS 3 hg (kgS wt6_69 wt6_70 wt1_14 wt6_71) rfl rfl rfl (by decide +kernel) ⟨by decide, by decide⟩) hP hS rfl hl.1 rfl (Nat.le_of_ble_eq_true rfl) dX12_rows_57 ⟨Nat.le_refl _, Nat.le_refl _⟩ (fun v32 H locs hw31 hP hS => ?_)
        refine lv_if_ne (tgt := 65) hx hb dX12_rows_60 (by decide) (fun c34 => ?_) (fun c34 => ?_)
        · have b35 : kb 1 v32 1 := kr_nel c34 hw31.1 kc_0 (by decide)
          have h36 := mLies_ne (hw31.2 ▸ c34)
          have b37 : kb 0 y 2147483647 := kr_le2 h36.1 kc_0 (kb_any y)
          have b38 : kb 0 y 9 := kr_le1 h36.2 b37 b30
          have hli := mLies_ne (hw31.2 ▸ c34)
          have hpop : (v25).toInt = ((pop s0 : Nat) : Int) := by have w1 := hw24.2; rw [show v14.toInt.toNat = s0 by omega] at w1; exact w1
          have hx0 : x.toInt < (a9 35 s0).toInt := by rw [ho0]; exact (kc_nle c19)
          refine lv_iconst (v := (-1)) hx hb dX12_rows_65 (by decide) ?_
          refine lv_istore (lv' := [(5, .int (-1)), (4, .int x), (3, .int v14), (0, .ref o), (1, .int x), (2, .int y)]) hx hb dX12_rows_66 hl (by decide) rfl (fun ls hl => ?_)
          refine lv_iconst (v := 0) hx hb dX12_rows_68 (by decide) ?_
          refine lv_istore (lv' := [(6, .int 0), (5, .int (-1)), (4, .int x), (3, .int v14), (0, .ref o), (1, .int x), (2, .int y)]) hx hb dX12_rows_69 hl (by decide) rfl (fun ls hl => ?_)
          have lp43 : ∀ (n44 : Nat) (sz : Nat) (j : Nat) (H : Heap) (locs : List Loc) (ls : Array Slot) (y39 : Int32) (y40 : Int32) (y41 : Int32) (y42 : Int32), (y.toInt + 1 < (j : Int) + (n44 : Int)) → (kb 0 y39 10) → (kb (-1) y40 9) → (kb 0 y41 2147483647) → (kb 0 y42 1023) → (y42.toInt = (sz : Int) ∧ sz < 2 ^ N) → (y39.toInt = (j : Int)) → (pop sz = pop s0 + j) → (0 ≤ y41.toInt ∧ ((j : Int) ≤ y.toInt → y41.toInt < (a9 35 sz).toInt)) → ((j : Int) ≤ y.toInt + 1) → va_P D vwCl (mW K o r f8 a9 g10) H → va_D A (mW K o r f8 a9 g10) → va_S A s.heap H locs → lv_has ls 7 [(6, .int y39), (5, .int y40), (4, .int y41), (3, .int y42), (0, .ref o), (1, .int x), (2, .int y)] → W p l e (rmD 4 0 0) s m ([.ref o, .int x, .int y] : List Value).toArray below meth c H locs 0 0 (kQi D (tysK K) (fun v (u : mS) => kb (-2147483648) v 2147483647 ∧ mI u.1 u.2.1 ∧ mE (XR []) f a u.1 u.2.1 ∧ mZ [] [35] f a u.1 u.2.1) (fun u => mW K o r u.1 u.2.1 u.2.2) A below ([.ref o, .int x, .int y] : List Value).toArray s 0 0) (F0 m 71 ls []) := by
            intro n44
            induction n44 with
            | zero =>
              intro sz j  H locs ls y39 y40 y41 y42 hmlp43 b45 b46 b47 b48 hvlp43_0 hvlp43_1 hvlp43_2 hvlp43_3 hvlp43_4 hP hD hS hl
              exact (by have w1 := hmlp43; have w2 := hvlp43_4; omega : False).elim
            | succ n44 ihlp43 =>
              intro sz j  H locs ls y39 y40 y41 y42 hmlp43 b45 b46 b47 b48 hvlp43_0 hvlp43_1 hvlp43_2 hvlp43_3 hvlp43_4 hP hD hS hl
              refine lv_iload hx hb dX12_rows_71 (lv_at hl 0 rfl) ?_
              refine lv_iload_n hx hb dX12_rows_73 rfl (lv_at hl 6 rfl) ?_
              refine lv_icmp_gt (tgt := 155) hx hb dX12_rows_74 (by decide) (fun c49 => ?_) (fun c49 => ?_)
              · have h50 := (kc_lt c49)
                have b51 : kb 1 y39 10 := kr_lt2 h50 b38 b45 (by decide)
                refine lv_iload hx hb dX12_rows_155 (lv_at hl 1 rfl) ?_
                exact kI_ret (v := y40) hx hb hr hlocks rfl hK hS dX12_rows_157 (f8, a9, g10) hP hD ⟨(kb_w b46 (by decide) (by decide)), hI, hE, hZ⟩
              · have h52 := (kc_nlt c49)
                have b53 : kb 0 y39 9 := kr_le1 h52 b45 b38
                have hjy : (j : Int) ≤ y.toInt := by have w1 := hvlp43_1; omega
                have hsA : sz < 2 ^ N - 1 := by
                  by_cases w1 : sz = 2 ^ N - 1
                  · exfalso
                    have w2 := chkA ⟨N, by omega⟩
                    have w3 : pop (2 ^ N - 1) = N := w2
                    have w4 := hvlp43_2
                    rw [w1, w3] at w4
                    have w5 := qt29
                    have w6 := qt27
                    omega
                  · have w2 := hvlp43_0; omega
                have hOs : (a9 35 sz).toInt = pSr (a 2) (a9 35) sz N := (hO sz (Nat.zero_le _) hvlp43_0.2).1 hsA
                refine lv_iconst (v := 0) hx hb dX12_rows_77 (by decide) ?_
                refine lv_istore (lv' := [(5, .int 0), (6, .int y39), (4, .int y41), (3, .int y42), (0, .ref o), (1, .int x), (2, .int y)]) hx hb dX12_rows_78 hl (by decide) rfl (fun ls hl => ?_)
                have lp56 : ∀ (n57 : Nat) (q : Nat) (H : Heap) (locs : List Loc) (ls : Array Slot) (y54 : Int32) (y55 : Int32), ((N : Int) < (q : Int) + (n57 : Int)) → (kb 0 y54 10) → (kb 0 y55 2147483647) → (y54.toInt = (q : Int)) → (y55.toInt + pSr (a 2) (a9 35) sz q = y41.toInt) → (0 ≤ y55.toInt) → (q ≤ N) → va_P D vwCl (mW K o r f8 a9 g10) H → va_D A (mW K o r f8 a9 g10) → va_S A s.heap H locs → lv_has ls 7 [(5, .int y54), (6, .int y39), (4, .int y55), (3, .int y42), (0, .ref o), (1, .int x), (2, .int y)] → W p l e (rmD 4 0 0) s m ([.ref o, .int x, .int y] : List Value).toArray below meth c H locs 0 0 (kQi D (tysK K) (fun v (u : mS) => kb (-2147483648) v 2147483647 ∧ mI u.1 u.2.1 ∧ mE (XR []) f a u.1 u.2.1 ∧ mZ [] [35] f a u.1 u.2.1) (fun u => mW K o r u.1 u.2.1 u.2.2) A below ([.ref o, .int x, .int y] : List Value).toArray s 0 0) (F0 m 80 ls []) := by
                  intro n57
                  induction n57 with
                  | zero =>
                    intro q  H locs ls y54 y55 hmlp56 b58 b59 hvlp56_0 hvlp56_1 hvlp56_2 hvlp56_3 hP hD hS hl
                    exact (by have w1 := hmlp56; have w2 := hvlp56_3; omega : False).elim
                  | succ n57 ihlp56 =>
                    intro q  H locs ls y54 y55 hmlp56 b58 b59 hvlp56_0 hvlp56_1 hvlp56_2 hvlp56_3 hP hD hS hl
                    have hqN1 : q < N := by
                      by_cases w1 : q = N
                      · exfalso
                        have w2 := hvlp56_1
                        rw [w1, ← hOs] at w2
                        have w3 := hvlp43_3.2 hjy
                        have w4 := hvlp56_2
                        omega
                      · have w2 := hvlp56_3; omega
                    have b60 : kb 0 y54 9 := ⟨(b58).1, by have w1 := hvlp56_0; omega⟩
                    refine lv_aload_n hx hb dX12_rows_80 rfl (lv_at hl 4 rfl) ?_
                    refine lv_iload_n hx hb dX12_rows_81 rfl (lv_at hl 3 rfl) ?_
                    refine lv_iload hx hb dX12_rows_82 (lv_at hl 0 rfl) ?_
                    refine kI.callV (As := [.int y42, .int y54]) (rest := []) ⟨hx, hb, hml, hown, hg⟩ (m2_canFollow l o r f8 a9 g10 hI y42 y54 b48 b60 ) (cwV 2 hg (kgV wt7_191 wt7_193 wp7_2 wt1_14 wt7_194) rfl rfl rfl (by decide +kernel) ⟨by decide, by decide⟩) hK hP hD hS hA mIs [] rfl (wr := []) rfl rfl rfl (fun i h => by cases h) 0 12 rfl rfl rfl hl.1 rfl (Nat.le_of_ble_eq_true rfl) dX12_rows_84 ⟨Nat.le_refl _, Nat.le_refl _⟩ (fun v62 u63 H locs hw61 hP hD hS => ?_)
                    have hP : va_P D vwCl (mW K o r f8 a9 g10) H := hP
                    have hD : va_D A (mW K o r f8 a9 g10) := hD
                    refine lv_if_eq (tgt := 106) hx hb dX12_rows_87 (by decide) (fun c64 => ?_) (fun c64 => ?_)
                    · have b65 : kb 0 v62 0 := kb_eq c64 kc_0
                      have hfn66 : ¬ fB (a 2) sz q = true := fB_n (by rw [hw61.2, hK2]) hvlp43_0.1 hvlp56_0 (by omega) (by omega) c64
                      refine lv_iload hx hb dX12_rows_106 (lv_at hl 2 rfl) ?_
                      refine lv_aload_n hx hb dX12_rows_108 rfl (lv_at hl 4 rfl) ?_
                      refine lv_iload_n hx hb dX12_rows_109 rfl (lv_at hl 3 rfl) ?_
                      refine lv_iload hx hb dX12_rows_110 (lv_at hl 0 rfl) ?_
                      refine kI.callV (As := [.int y42, .int y54]) (rest := [.int y55]) ⟨hx, hb, hml, hown, hg⟩ (m2_canFollow l o r f8 a9 g10 hI y42 y54 b48 b60 ) (cwV 2 hg (kgV wt7_191 wt7_193 wp7_2 wt1_14 wt7_194) rfl rfl rfl (by decide +kernel) ⟨by decide, by decide⟩) hK hP hD hS hA mIs [] rfl (wr := []) rfl rfl rfl (fun i h => by cases h) 0 12 rfl rfl rfl hl.1 rfl (Nat.le_of_ble_eq_true rfl) dX12_rows_112 ⟨Nat.le_refl _, Nat.le_refl _⟩ (fun v68 u69 H locs hw67 hP hD hS => ?_)
                      have hP : va_P D vwCl (mW K o r f8 a9 g10) H := hP
                      have hD : va_D A (mW K o r f8 a9 g10) := hD
                      refine k_top (z := v62) (hw67.2.trans hw61.2.symm) ?_
                      refine lv_if_eq (tgt := 132) hx hb dX12_rows_115 (by decide) (fun c70 => ?_) (fun c70 => ?_)
                      · refine lv_iconst (v := 0) hx hb dX12_rows_132 (by decide) ?_
                        refine lv_isub hx hb dX12_rows_133 ?_
                        refine lv_topi (fun t71 et71 => ?_)
                        have b72 : kb 0 t71 2147483647 := kb_eq et71 (kb_sub b59 kc_0 (by decide) (by decide))
                        have qt71 : t71.toInt = y55.toInt - 0 := by rw [et71]; exact kt_subc b59 kc_0 (by decide) (by decide)
                        refine lv_istore (lv' := [(4, .int t71), (5, .int y54), (6, .int y39), (3, .int y42), (0, .ref o), (1, .int x), (2, .int y)]) hx hb dX12_rows_134 hl (by decide) rfl (fun ls hl => ?_)
                        obtain ⟨t73, et73⟩ : ∃ z : Int32, z = y54 + Int32.ofInt 1 := ⟨_, rfl⟩
                        have qt73 : t73.toInt = y54.toInt + 1 := by rw [et73]; exact km_inc b60 (by decide) (by decide)
                        have b74 : kb 1 t73 10 := kb_inc (k := 1) qt73 b60
                        refine lv_iinc (v := t73) (lv' := [(5, .int t73), (4, .int t71), (6, .int y39), (3, .int y42), (0, .ref o), (1, .int x), (2, .int y)]) hx hb dX12_rows_136 hl (k := 1) rfl et73.symm (by decide) rfl (fun ls hl => ?_)
                        refine lv_goto (tgt := 80) hx hb dX12_rows_139 (by decide) ?_
                        exact ihlp56 (q + 1) _ _ _ t73 t71 (by omega) (kb_w b74 (by decide) (by decide)) b72 (by have w1 := hvlp56_0; omega) (by rw [pS_n hfn66]; have w1 := qt71; have w2 := hvlp56_1; omega) (by have w1 := qt71; have w2 := hvlp56_2; omega) (by omega) hP hD hS (lv_sub hl [0, 2, 1, 3, 4, 5, 6] rfl)
                      · exact kb_nsame c70 b65 kc_0
                    · have b75 : kb 1 v62 1 := kr_nel c64 hw61.1 kc_0 (by decide)
                      have hfy76 : fB (a 2) sz q = true := fB_y (by rw [hw61.2, hK2]) hvlp43_0.1 hvlp56_0 (by omega) (by omega) c64 hw61.1
                      refine lv_iload hx hb dX12_rows_90 (lv_at hl 2 rfl) ?_
                      refine lv_aload_n hx hb dX12_rows_92 rfl (lv_at hl 4 rfl) ?_
                      refine va_get (D := D) (ci := 12) (v := .ref (r 35)) (C := RX12) (T := TX12) (N := 48) hx hb hg inC12 hown hK hP 0 rfl rfl 35 (by decide) (hg _ wt5_195) (fun _ h9 => h9) rfl dX12_rows_93 ?_
                      refine lv_iload_n hx hb dX12_rows_96 rfl (lv_at hl 3 rfl) ?_
                      refine lv_iconst (v := 1) hx hb dX12_rows_97 (by decide) ?_
                      refine lv_iload hx hb dX12_rows_98 (lv_at hl 0 rfl) ?_
                      refine lv_ishl hx hb dX12_rows_100 ?_
                      refine lv_topi (fun t77 et77 => ?_)
                      have b78 : kb 1 t77 512 := kb_eq et77 (kb_shl (l := 0) (h := 9) b60 (by decide))
                      refine lv_ior hx hb dX12_rows_101 ?_
                      refine lv_topi (fun t79 et79 => ?_)
                      have b80 : kb 0 t79 1023 := kb_eq et79 (kb_or 10 b48 b78 (by decide) (by decide) (by decide) (by decide) (by decide))
                      refine va_iald hx hb hK hP 18 0 rfl rfl (kb_in b80 (by decide) (by decide)) dX12_rows_102 ?_
                      refine lv_topi (fun t81 et81 => ?_)
                      have hix := cl_or (t := t79) (by rw [et79, et77]) hvlp43_0.1 hvlp56_0 (by omega) (by omega)
                      have hoo : a9 35 (sz ||| 2 ^ q) = t81 := by rw [← hix.1]; exact et81.symm
                      have b82 : kb 0 t81 3628800 := kb_eq hoo.symm (oDn_b hN10 hO (Nat.zero_le _) (or_lt hvlp43_0.2 hqN1))
                      refine lv_icmp_lt (tgt := 142) hx hb dX12_rows_103 (by decide) (fun c83 => ?_) (fun c83 => ?_)
                      · have h84 := (kc_lt c83)
                        have b85 : kb 0 y55 3628799 := kr_lt1 h84 b59 b82 (by decide)
                        have b86 : kb 1 t81 3628800 := kr_lt2 h84 b59 b82 (by decide)
                        refine lv_iload_n hx hb dX12_rows_142 rfl (lv_at hl 3 rfl) ?_
                        refine lv_iconst (v := 1) hx hb dX12_rows_143 (by decide) ?_
                        refine lv_iload hx hb dX12_rows_144 (lv_at hl 0 rfl) ?_
                        refine lv_ishl hx hb dX12_rows_146 ?_
                        refine k_top (z := t77) et77.symm ?_
                        refine lv_ior hx hb dX12_rows_147 ?_
                        refine k_top (z := t79) et79.symm ?_
                        refine lv_istore_n (lv' := [(3, .int t79), (5, .int y54), (6, .int y39), (4, .int y55), (0, .ref o), (1, .int x), (2, .int y)]) hx hb dX12_rows_148 rfl hl (by decide) rfl (fun ls hl => ?_)
                        obtain ⟨t87, et87⟩ : ∃ z : Int32, z = y39 + Int32.ofInt 1 := ⟨_, rfl⟩
                        have qt87 : t87.toInt = y39.toInt + 1 := by rw [et87]; exact km_inc b53 (by decide) (by decide)
                        have b88 : kb 1 t87 10 := kb_inc (k := 1) qt87 b53
                        refine lv_iinc (v := t87) (lv' := [(6, .int t87), (3, .int t79), (5, .int y54), (4, .int y55), (0, .ref o), (1, .int x), (2, .int y)]) hx hb dX12_rows_149 hl (k := 2) rfl et87.symm (by decide) rfl (fun ls hl => ?_)
                        refine lv_goto (tgt := 71) hx hb dX12_rows_152 (by decide) ?_
                        exact ihlp43 (sz ||| 2 ^ q) (j + 1) _ _ _ t87 y54 y55 t79 (by omega) (kb_w b88 (by decide) (by decide)) (kb_w b60 (by decide) (by decide)) (kb_w b85 (by decide) (by decide)) b80 (⟨(cl_or (t := t79) (by rw [et79, et77]) hvlp43_0.1 hvlp56_0 (by omega) (by omega)).2, or_lt hvlp43_0.2 hqN1⟩) (by have w1 := hvlp43_1; omega) (by have w1 := chkP ⟨sz, by omega⟩ ⟨q, by omega⟩ (fB_t (by omega) (by omega) hfy76); have w2 : pop (sz ||| 2 ^ q) = pop sz + 1 := w1; omega) (⟨by have w1 := hvlp56_2; omega, fun _ => by rw [hoo]; exact kc_lt c83⟩) (by omega) hP hD hS (lv_sub hl [0, 2, 3, 1, 4, 5, 6] rfl)
                      · have h89 := (kc_nlt c83)
                        refine lv_iload hx hb dX12_rows_106 (lv_at hl 2 rfl) ?_
                        refine lv_aload_n hx hb dX12_rows_108 rfl (lv_at hl 4 rfl) ?_
                        refine lv_iload_n hx hb dX12_rows_109 rfl (lv_at hl 3 rfl) ?_
                        refine lv_iload hx hb dX12_rows_110 (lv_at hl 0 rfl) ?_
                        refine kI.callV (As := [.int y42, .int y54]) (rest := [.int y55]) ⟨hx, hb, hml, hown, hg⟩ (m2_canFollow l o r f8 a9 g10 hI y42 y54 b48 b60 ) (cwV 2 hg (kgV wt7_191 wt7_193 wp7_2 wt1_14 wt7_194) rfl rfl rfl (by decide +kernel) ⟨by decide, by decide⟩) hK hP hD hS hA mIs [] rfl (wr := []) rfl rfl rfl (fun i h => by cases h) 0 12 rfl rfl rfl hl.1 rfl (Nat.le_of_ble_eq_true rfl) dX12_rows_112 ⟨Nat.le_refl _, Nat.le_refl _⟩ (fun v91 u92 H locs hw90 hP hD hS => ?_)
                        have hP : va_P D vwCl (mW K o r f8 a9 g10) H := hP
                        have hD : va_D A (mW K o r f8 a9 g10) := hD
                        refine k_top (z := v62) (hw90.2.trans hw61.2.symm) ?_
                        refine lv_if_eq (tgt := 132) hx hb dX12_rows_115 (by decide) (fun c93 => ?_) (fun c93 => ?_)
                        · exact kb_dj c93 b75 kc_0 (by decide)
                        · refine lv_aload_n hx hb dX12_rows_118 rfl (lv_at hl 4 rfl) ?_
                          refine va_get (D := D) (ci := 12) (v := .ref (r 35)) (C := RX12) (T := TX12) (N := 48) hx hb hg inC12 hown hK hP 0 rfl rfl 35 (by decide) (hg _ wt5_195) (fun _ h9 => h9) rfl dX12_rows_119 ?_
                          refine lv_iload_n hx hb dX12_rows_122 rfl (lv_at hl 3 rfl) ?_
                          refine lv_iconst (v := 1) hx hb dX12_rows_123 (by decide) ?_
                          refine lv_iload hx hb dX12_rows_124 (lv_at hl 0 rfl) ?_
                          refine lv_ishl hx hb dX12_rows_126 ?_
                          refine k_top (z := t77) et77.symm ?_
                          refine lv_ior hx hb dX12_rows_127 ?_
                          refine k_top (z := t79) et79.symm ?_
                          refine va_iald hx hb hK hP 18 0 rfl rfl (kb_in b80 (by decide) (by decide)) dX12_rows_128 ?_
                          refine k_top (z := t81) et81.symm ?_
                          refine lv_goto (tgt := 133) hx hb dX12_rows_129 (by decide) ?_
                          refine lv_isub hx hb dX12_rows_133 ?_
                          refine lv_topi (fun t94 et94 => ?_)
                          have b95 : kb (-3628800) t94 2147483647 := kb_eq et94 (kb_sub b59 b82 (by decide) (by decide))
                          have qt94 : t94.toInt = y55.toInt - t81.toInt := by rw [et94]; exact kt_sub b59 b82 (by decide) (by decide)
                          refine lv_istore (lv' := [(4, .int t94), (5, .int y54), (6, .int y39), (3, .int y42), (0, .ref o), (1, .int x), (2, .int y)]) hx hb dX12_rows_134 hl (by decide) rfl (fun ls hl => ?_)
                          have b96 : kb 0 t94 2147483647 := ⟨by have w1 := qt94; have w2 := kc_nlt c83; omega, (b95).2⟩
                          obtain ⟨t97, et97⟩ : ∃ z : Int32, z = y54 + Int32.ofInt 1 := ⟨_, rfl⟩
                          have qt97 : t97.toInt = y54.toInt + 1 := by rw [et97]; exact km_inc b60 (by decide) (by decide)
                          have b98 : kb 1 t97 10 := kb_inc (k := 1) qt97 b60
                          refine lv_iinc (v := t97) (lv' := [(5, .int t97), (4, .int t94), (6, .int y39), (3, .int y42), (0, .ref o), (1, .int x), (2, .int y)]) hx hb dX12_rows_136 hl (k := 1) rfl et97.symm (by decide) rfl (fun ls hl => ?_)
                          refine lv_goto (tgt := 80) hx hb dX12_rows_139 (by decide) ?_
                          exact ihlp56 (q + 1) _ _ _ t97 t94 (by omega) (kb_w b98 (by decide) (by decide)) b96 (by have w1 := hvlp56_0; omega) (by rw [pS_y hfy76, hoo]; have w1 := qt94; have w2 := hvlp56_1; omega) (by have w1 := qt94; have w2 := kc_nlt c83; omega) (by omega) hP hD hS (lv_sub hl [0, 2, 1, 3, 4, 5, 6] rfl)
                exact lp56 (N + 1) 0 _ _ _ 0 y41 (by omega) (kb_w kc_0 (by decide) (by decide)) b47 (by decide +kernel) (by show y41.toInt + 0 = y41.toInt; omega) (by exact hvlp43_3.1) (Nat.zero_le _) hP hD hS (lv_sub hl [0, 1, 2, 3, 4, 5, 6] rfl)
          exact lp43 (12) s0 0 _ _ _ 0 (-1) x v14 (by have w1 := (b38).2; omega) (kb_w kc_0 (by decide) (by decide)) (kb_w kc_m1 (by decide) (by decide)) (kb_w b22 (by decide) (by decide)) hw13.1 (⟨by omega, hs1⟩) (by decide +kernel) (by omega) (⟨by have w1 := (b22).1; omega, fun _ => hx0⟩) (by omega) hP hD hS (lv_sub hl [0, 1, 2, 3, 4, 5, 6] rfl)
        · have b99 : kb 0 v32 0 := kb_eq c34 kc_0
          refine lv_iconst (v := (-1)) hx hb dX12_rows_63 (by decide) ?_
          exact kI_ret (v := (-1)) hx hb hr hlocks rfl hK hS dX12_rows_64 (f8, a9, g10) hP hD ⟨(kb_w kc_m1 (by decide) (by decide)), hI, hE, hZ⟩
    · have b100 : kb (-1) x (-1) := kb_eq c16 kc_m1
      refine lv_aload_n hx hb dX12_rows_21 rfl (lv_at hl 1 rfl) ?_
      refine va_get (D := D) (ci := 12) (v := .ref (r 35)) (C := RX12) (T := TX12) (N := 48) hx hb hg inC12 hown hK hP 0 rfl rfl 35 (by decide) (hg _ wt5_195) (fun _ h9 => h9) rfl dX12_rows_22 ?_
      refine lv_iload_n hx hb dX12_rows_25 rfl (lv_at hl 0 rfl) ?_
      refine va_iald hx hb hK hP 18 0 rfl rfl (kb_in hw13.1 (by decide) (by decide)) dX12_rows_26 ?_
      refine lv_topi (fun t101 et101 => ?_)
      exact kI_ret (v := t101) hx hb hr hlocks rfl hK hS dX12_rows_27 (f8, a9, g10) hP hD ⟨(kb_any t101), hI, hE, hZ⟩
  · have h102 := (kc_nle c2)
    have b103 : kb (-2147483648) x (-2) := kr_lt1 h102 (kb_any x) kc_m1 (by decide)
    refine lv_iconst (v := (-1)) hx hb dX12_rows_5 (by decide) ?_
    exact kI_ret (v := (-1)) hx hb hr hlocks rfl hK hS dX12_rows_6 (f, a, g) hP hD ⟨(kb_w kc_m1 (by decide) (by decide)), hI, hE, hZ⟩
