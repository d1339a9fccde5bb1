theorem tk_end {t : Nat → Int32} {S N j : Nat} (h : ∀ i, i < N → plT t S i < S) (e : tkT t S j = 4000) : ¬ j < N := by
  intro hj
  rw [tkT_l (h j hj)] at e
  have w := (toT_b (t := t) (h j hj)).2
  rw [e] at w
  exact absurd w (by decide +kernel)
theorem min_S {x y : Int32} {S : Nat} (hx : x.toInt = (S : Int)) (h : x.toInt ≤ y.toInt) : (if y < x then y else x).toInt = (S : Int) := by
  rw [if_neg (fun q => by have w := kc_lt q; omega)]
  exact hx
theorem dX4_read_0 : decode cX4_read 0 = .ok (.aload_n 0, 1) := by decide +kernel
theorem dX4_read_1 : decode cX4_read 1 = .ok (.aload_n 1, 1) := by decide +kernel
theorem dX4_read_2 : decode cX4_read 2 = .ok (.iload_n 2, 1) := by decide +kernel
theorem dX4_read_3 : decode cX4_read 3 = .ok (.aload_n 1, 1) := by decide +kernel
theorem dX4_read_4 : decode cX4_read 4 = .ok (.arraylength, 1) := by decide +kernel
theorem dX4_read_5 : decode cX4_read 5 = .ok (.sipush 400, 3) := by decide +kernel
theorem dX4_read_8 : decode cX4_read 8 = .ok (.invokestatic 41, 3) := by decide +kernel
theorem dX4_read_11 : decode cX4_read 11 = .ok (.invokestatic 41, 3) := by decide +kernel
theorem dX4_read_14 : decode cX4_read 14 = .ok (.invokevirtual 47, 3) := by decide +kernel
theorem dX4_read_17 : decode cX4_read 17 = .ok (.aload_n 0, 1) := by decide +kernel
theorem dX4_read_18 : decode cX4_read 18 = .ok (.getfield 16, 3) := by decide +kernel
theorem dX4_read_21 : decode cX4_read 21 = .ok (.invokevirtual 51, 3) := by decide +kernel
theorem dX4_read_24 : decode cX4_read 24 = .ok (.aload_n 0, 1) := by decide +kernel
theorem dX4_read_25 : decode cX4_read 25 = .ok (.iconst 0, 1) := by decide +kernel
theorem dX4_read_26 : decode cX4_read 26 = .ok (.putfield 31, 3) := by decide +kernel
theorem dX4_read_29 : decode cX4_read 29 = .ok (.aload_n 0, 1) := by decide +kernel
theorem dX4_read_30 : decode cX4_read 30 = .ok (.iconst 0, 1) := by decide +kernel
theorem dX4_read_31 : decode cX4_read 31 = .ok (.putfield 34, 3) := by decide +kernel
theorem dX4_read_34 : decode cX4_read 34 = .ok (.aload_n 0, 1) := by decide +kernel
theorem dX4_read_35 : decode cX4_read 35 = .ok (.iload_n 3, 1) := by decide +kernel
theorem dX4_read_36 : decode cX4_read 36 = .ok (.putfield 37, 3) := by decide +kernel
theorem dX4_read_39 : decode cX4_read 39 = .ok (.iconst 0, 1) := by decide +kernel
theorem dX4_read_40 : decode cX4_read 40 = .ok (.istore 4, 2) := by decide +kernel
theorem dX4_read_42 : decode cX4_read 42 = .ok (.iload 4, 2) := by decide +kernel
theorem dX4_read_44 : decode cX4_read 44 = .ok (.bipush 12, 2) := by decide +kernel
theorem dX4_read_46 : decode cX4_read 46 = .ok (.if_icmp .ge 113, 3) := by decide +kernel
theorem dX4_read_49 : decode cX4_read 49 = .ok (.iload_n 3, 1) := by decide +kernel
theorem dX4_read_50 : decode cX4_read 50 = .ok (.ifCond .eq 13, 3) := by decide +kernel
theorem dX4_read_53 : decode cX4_read 53 = .ok (.aload_n 0, 1) := by decide +kernel
theorem dX4_read_54 : decode cX4_read 54 = .ok (.invokevirtual 54, 3) := by decide +kernel
theorem dX4_read_57 : decode cX4_read 57 = .ok (.ifCond .eq 13, 3) := by decide +kernel
theorem dX4_read_60 : decode cX4_read 60 = .ok (.goto 15, 3) := by decide +kernel
theorem dX4_read_63 : decode cX4_read 63 = .ok (.aload_n 0, 1) := by decide +kernel
theorem dX4_read_64 : decode cX4_read 64 = .ok (.invokevirtual 58, 3) := by decide +kernel
theorem dX4_read_67 : decode cX4_read 67 = .ok (.ifCond .ne 8, 3) := by decide +kernel
theorem dX4_read_70 : decode cX4_read 70 = .ok (.aload_n 0, 1) := by decide +kernel
theorem dX4_read_71 : decode cX4_read 71 = .ok (.invokevirtual 61, 3) := by decide +kernel
theorem dX4_read_74 : decode cX4_read 74 = .ok (.ireturn, 1) := by decide +kernel
theorem dX4_read_75 : decode cX4_read 75 = .ok (.aload_n 0, 1) := by decide +kernel
theorem dX4_read_76 : decode cX4_read 76 = .ok (.invokevirtual 65, 3) := by decide +kernel
theorem dX4_read_79 : decode cX4_read 79 = .ok (.sipush 2003, 3) := by decide +kernel
theorem dX4_read_82 : decode cX4_read 82 = .ok (.if_icmp .ne 26, 3) := by decide +kernel
theorem dX4_read_85 : decode cX4_read 85 = .ok (.aload_n 0, 1) := by decide +kernel
theorem dX4_read_86 : decode cX4_read 86 = .ok (.dup, 1) := by decide +kernel
theorem dX4_read_87 : decode cX4_read 87 = .ok (.getfield 31, 3) := by decide +kernel
theorem dX4_read_90 : decode cX4_read 90 = .ok (.iconst 1, 1) := by decide +kernel
theorem dX4_read_91 : decode cX4_read 91 = .ok (.iadd, 1) := by decide +kernel
theorem dX4_read_92 : decode cX4_read 92 = .ok (.putfield 31, 3) := by decide +kernel
theorem dX4_read_95 : decode cX4_read 95 = .ok (.aload_n 0, 1) := by decide +kernel
theorem dX4_read_96 : decode cX4_read 96 = .ok (.iconst 0, 1) := by decide +kernel
theorem dX4_read_97 : decode cX4_read 97 = .ok (.invokevirtual 68, 3) := by decide +kernel
theorem dX4_read_100 : decode cX4_read 100 = .ok (.ifCond .ne 8, 3) := by decide +kernel
theorem dX4_read_103 : decode cX4_read 103 = .ok (.aload_n 0, 1) := by decide +kernel
theorem dX4_read_104 : decode cX4_read 104 = .ok (.invokevirtual 61, 3) := by decide +kernel
theorem dX4_read_107 : decode cX4_read 107 = .ok (.ireturn, 1) := by decide +kernel
theorem dX4_read_108 : decode cX4_read 108 = .ok (.aload_n 0, 1) := by decide +kernel
theorem dX4_read_109 : decode cX4_read 109 = .ok (.getfield 16, 3) := by decide +kernel
theorem dX4_read_112 : decode cX4_read 112 = .ok (.iconst 2, 1) := by decide +kernel
theorem dX4_read_113 : decode cX4_read 113 = .ok (.invokevirtual 72, 3) := by decide +kernel
theorem dX4_read_116 : decode cX4_read 116 = .ok (.aload_n 0, 1) := by decide +kernel
theorem dX4_read_117 : decode cX4_read 117 = .ok (.invokevirtual 65, 3) := by decide +kernel
theorem dX4_read_120 : decode cX4_read 120 = .ok (.sipush 4000, 3) := by decide +kernel
theorem dX4_read_123 : decode cX4_read 123 = .ok (.if_icmp .ne 5, 3) := by decide +kernel
theorem dX4_read_126 : decode cX4_read 126 = .ok (.iconst (-1), 1) := by decide +kernel
theorem dX4_read_127 : decode cX4_read 127 = .ok (.ireturn, 1) := by decide +kernel
theorem dX4_read_128 : decode cX4_read 128 = .ok (.aload_n 0, 1) := by decide +kernel
theorem dX4_read_129 : decode cX4_read 129 = .ok (.invokevirtual 65, 3) := by decide +kernel
theorem dX4_read_132 : decode cX4_read 132 = .ok (.sipush 3059, 3) := by decide +kernel
theorem dX4_read_135 : decode cX4_read 135 = .ok (.if_icmp .eq 8, 3) := by decide +kernel
theorem dX4_read_138 : decode cX4_read 138 = .ok (.aload_n 0, 1) := by decide +kernel
theorem dX4_read_139 : decode cX4_read 139 = .ok (.invokevirtual 61, 3) := by decide +kernel
theorem dX4_read_142 : decode cX4_read 142 = .ok (.ireturn, 1) := by decide +kernel
theorem dX4_read_143 : decode cX4_read 143 = .ok (.aload_n 0, 1) := by decide +kernel
theorem dX4_read_144 : decode cX4_read 144 = .ok (.dup, 1) := by decide +kernel
theorem dX4_read_145 : decode cX4_read 145 = .ok (.getfield 31, 3) := by decide +kernel
theorem dX4_read_148 : decode cX4_read 148 = .ok (.iconst 1, 1) := by decide +kernel
theorem dX4_read_149 : decode cX4_read 149 = .ok (.iadd, 1) := by decide +kernel
theorem dX4_read_150 : decode cX4_read 150 = .ok (.putfield 31, 3) := by decide +kernel
theorem dX4_read_153 : decode cX4_read 153 = .ok (.iinc 4 1, 3) := by decide +kernel
theorem dX4_read_156 : decode cX4_read 156 = .ok (.goto (-114), 3) := by decide +kernel
theorem dX4_read_159 : decode cX4_read 159 = .ok (.aload_n 0, 1) := by decide +kernel
theorem dX4_read_160 : decode cX4_read 160 = .ok (.invokevirtual 61, 3) := by decide +kernel
theorem dX4_read_163 : decode cX4_read 163 = .ok (.ireturn, 1) := by decide +kernel
theorem dX10_clear_0 : decode cX10_clear 0 = .ok (.aload_n 0, 1) := by decide +kernel
theorem dX10_clear_1 : decode cX10_clear 1 = .ok (.iconst 0, 1) := by decide +kernel
theorem dX10_clear_2 : decode cX10_clear 2 = .ok (.putfield 9, 3) := by decide +kernel
theorem dX10_clear_5 : decode cX10_clear 5 = .ok (.aload_n 0, 1) := by decide +kernel
theorem dX10_clear_6 : decode cX10_clear 6 = .ok (.iconst 0, 1) := by decide +kernel
theorem dX10_clear_7 : decode cX10_clear 7 = .ok (.putfield 25, 3) := by decide +kernel
theorem dX10_clear_10 : decode cX10_clear 10 = .ok (.aload_n 0, 1) := by decide +kernel
theorem dX10_clear_11 : decode cX10_clear 11 = .ok (.getfield 22, 3) := by decide +kernel
theorem dX10_clear_14 : decode cX10_clear 14 = .ok (.iconst 0, 1) := by decide +kernel
theorem dX10_clear_15 : decode cX10_clear 15 = .ok (.invokestatic 46, 3) := by decide +kernel
theorem dX10_clear_18 : decode cX10_clear 18 = .ok (.return_, 1) := by decide +kernel
theorem wt3_231 : Cond.methodLink RX10 46 yJ7_fill_53178 ∈ kG := kt3 231 rfl rfl
theorem wt3_230 : Cond.code yX10_clear cX10_clear 1 none ∈ kG := kt3 230 rfl rfl
theorem wt4_49 : Cond.code yX4_placeInHand cX4_placeInHand 1 (some .int) ∈ kG := kt4 49 rfl rfl
theorem wt4_45 : Cond.code yX4_readRule cX4_readRule 2 (some .boolean) ∈ kG := kt4 45 rfl rfl
theorem wt3_237 : Cond.code yX4_readOrder cX4_readOrder 2 (some .boolean) ∈ kG := kt3 237 rfl rfl
theorem wt3_161 : Cond.code yX4_split cX4_split 7 none ∈ kG := kt3 161 rfl rfl
theorem wt3_157 : Cond.methodLink RX4 41 Lib.Math.min.name ∈ kG := kt3 157 rfl rfl
theorem wt3_158 : Cond.methodLink RX4 47 yX4_split ∈ kG := kt3 158 rfl rfl
theorem wt3_160 : Cond.instanceMethod yX4_split ∈ kG := kt3 160 rfl rfl
theorem wp1_9 : Cond.selects RX4 yX4_split yX4_split ∈ kG := kp1 9 rfl rfl
theorem wt3_227 : Cond.methodLink RX4 51 yX10_clear ∈ kG := kt3 227 rfl rfl
theorem wt3_228 : Cond.instanceMethod yX10_clear ∈ kG := kt3 228 rfl rfl
theorem wt3_229 : Cond.selects RX10 yX10_clear yX10_clear ∈ kG := kt3 229 rfl rfl
theorem wt4_46 : Cond.methodLink RX4 61 yX4_placeInHand ∈ kG := kt4 46 rfl rfl
theorem wt4_48 : Cond.instanceMethod yX4_placeInHand ∈ kG := kt4 48 rfl rfl
theorem wp2_4 : Cond.selects RX4 yX4_placeInHand yX4_placeInHand ∈ kG := kp2 4 rfl rfl
theorem wt4_42 : Cond.methodLink RX4 58 yX4_readRule ∈ kG := kt4 42 rfl rfl
theorem wt4_44 : Cond.instanceMethod yX4_readRule ∈ kG := kt4 44 rfl rfl
theorem wp2_3 : Cond.selects RX4 yX4_readRule yX4_readRule ∈ kG := kp2 3 rfl rfl
theorem wt3_234 : Cond.methodLink RX4 54 yX4_readOrder ∈ kG := kt3 234 rfl rfl
theorem wt3_236 : Cond.instanceMethod yX4_readOrder ∈ kG := kt3 236 rfl rfl
theorem wp1_11 : Cond.selects RX4 yX4_readOrder yX4_readOrder ∈ kG := kp1 11 rfl rfl
theorem kc_2003 : kb 2003 2003 2003 := ⟨by decide +kernel, by decide +kernel⟩
theorem kc_3059 : kb 3059 3059 3059 := ⟨by decide +kernel, by decide +kernel⟩
set_option maxHeartbeats 4000000 in
set_option maxRecDepth 100000 in
theorem y_clear  (l : Launch) {D : va_G} {K : Nat → ClassId} (r : Nat → Nat) (f : Nat → Int32) (a : Nat → Nat → Int32) (g : xG) (tx tt : va_W) (hT : ∀ c ∈ tt, c ∈ tx) (hI : xI f a) (hG : gOK K g.2 tt)     : kVG l yX10_clear (Cond.code yX10_clear cX10_clear 1 none :: kG) (rmD 2 0 0) D K [.ref (r 51)] (xX K r f a g tx) (fun (u : xS) => xI u.1 u.2.1 ∧ gOK K u.2.2.2 tt ∧ xEk [12, 13, 14, 32, 38, 44, 49, 50, 832, 838, 844, 849, 850, 1603, 1604, 1605, 1606] f a g u.1 u.2.1 u.2.2 ∧ (u.2.1 56 = a 56 ∧ u.2.1 57 = a 57) ∧ u.1 1632 = 0) (fun u => xX K r u.1 u.2.1 u.2.2 tx) 0 0 := by
  refine kVG.of (cc := cX10_clear) (maxL := 1) (ret := none) (by decide) rfl (Nat.le_of_ble_eq_true rfl) ?_
  intro p e s m below meth c A hx hb hr hml hown hts hlocks hnm hK hP hD hS hA hV ls hl
  have hE : xEk [12, 13, 14, 32, 38, 44, 49, 50, 832, 838, 844, 849, 850, 1603, 1604, 1605, 1606] f a g f a g := xEk_rf
  have hg : ∀ w ∈ kG, w.before _ s = true := fun w h => hts w (List.mem_cons_of_mem _ h)
  have hown : s.vm.findClass RX10 = some m.cls := hown
  have hl : lv_has ls 1 [(0, .ref (r 51))] := hl
  have hk0 : a 56 = a 56 ∧ a 57 = a 57 := ⟨rfl, rfl⟩
  refine lv_aload_n hx hb dX10_clear_0 rfl (lv_at hl 0 rfl) ?_
  refine lv_iconst (v := 0) hx hb dX10_clear_1 (by decide) ?_
  refine va_put (D := D) (ci := 10) (v := .int 0) (ty := .int) (C := RX10) (T := TX10) (N := 6) hx hb hg inC10 tyX10 tyX10_ok nmX10 hown hK hP hD hS 51 rfl rfl 0 (by decide) (hg _ wt2_40) (fun _ h9 => h9) rfl (by decide +kernel) rfl rfl (Nat.le_of_ble_eq_true rfl) dX10_clear_2 (fun H locs hP hD hS => ?_)
  have hP : va_P D vwCl (xX K r (upd f 1632 0) a g tx) H := hP
  have hD : va_D A (xX K r (upd f 1632 0) a g tx) := hD
  refine k_gen (P := fun z => va_P D vwCl (xX K r z a g tx) H ∧ va_D A (xX K r z a g tx) ∧ (xI z a) ∧ (gOK K g.2 tt) ∧ (xEk [12, 13, 14, 32, 38, 44, 49, 50, 832, 838, 844, 849, 850, 1603, 1604, 1605, 1606] f a g z a g) ∧ (a 56 = a 56 ∧ a 57 = a 57)) (upd f 1632 0) ⟨hP, hD, (xI_f hI (fI_st hI.1 1632 kc_0 (by decide) (by decide))), hG, (xEk_f hE (by decide)), hk0⟩ (fun f_1 ef_1 hq => ?_)
  obtain ⟨hP, hD, hI, hG, hE, hk0⟩ := hq
  refine lv_aload_n hx hb dX10_clear_5 rfl (lv_at hl 0 rfl) ?_
  refine lv_iconst (v := 0) hx hb dX10_clear_6 (by decide) ?_
  refine va_put (D := D) (ci := 10) (v := .int 0) (ty := .int) (C := RX10) (T := TX10) (N := 6) hx hb hg inC10 tyX10 tyX10_ok nmX10 hown hK hP hD hS 51 rfl rfl 5 (by decide) (hg _ wt2_50) (fun _ h9 => h9) rfl (by decide +kernel) rfl rfl (Nat.le_of_ble_eq_true rfl) dX10_clear_7 (fun H locs hP hD hS => ?_)
  have hP : va_P D vwCl (xX K r (upd f_1 1637 0) a g tx) H := hP
  have hD : va_D A (xX K r (upd f_1 1637 0) a g tx) := hD
  refine k_gen (P := fun z => va_P D vwCl (xX K r z a g tx) H ∧ va_D A (xX K r z a g tx) ∧ (xI z a) ∧ (gOK K g.2 tt) ∧ (xEk [12, 13, 14, 32, 38, 44, 49, 50, 832, 838, 844, 849, 850, 1603, 1604, 1605, 1606] f a g z a g) ∧ (a 56 = a 56 ∧ a 57 = a 57)) (upd f_1 1637 0) ⟨hP, hD, (xI_f hI (fI_st hI.1 1637 kc_0 (by decide) (by decide))), hG, (xEk_f hE (by decide)), hk0⟩ (fun f_2 ef_2 hq => ?_)
  obtain ⟨hP, hD, hI, hG, hE, hk0⟩ := hq
  refine lv_aload_n hx hb dX10_clear_10 rfl (lv_at hl 0 rfl) ?_
  refine va_get (D := D) (ci := 10) (v := .ref (r 54)) (C := RX10) (T := TX10) (N := 6) hx hb hg inC10 hown hK hP 51 rfl rfl 3 (by decide) (hg _ wt2_48) (fun _ h9 => h9) rfl dX10_clear_11 ?_
  refine lv_iconst (v := 0) hx hb dX10_clear_14 (by decide) ?_
  refine kV.callA (q0 := 54) (As := [.ref (r 54), .int 0]) (rest := []) ⟨hx, hb, hml, hown, hg⟩ (x_fill l (r 54) 37 (a 54) 0 (by decide)) (va_cwS 2 hg (kgS wt3_231 wt3_232 wt1_19 wt3_233) rfl rfl rfl (by decide +kernel) ⟨by decide, by decide⟩) hK hP hD hS hA rfl rfl hl.1 rfl (Nat.le_of_ble_eq_true rfl) dX10_clear_15 ⟨by decide, by decide⟩ (fun u3 H locs hw4 hP hD hS => ?_)
  have hP : va_P D vwCl (xX K r f_2 (va_up a 54 u3) g tx) H := hP
  have hD : va_D A (xX K r f_2 (va_up a 54 u3) g tx) := hD
  refine k_gen (P := fun z => va_P D vwCl (xX K r f_2 z g tx) H ∧ va_D A (xX K r f_2 z g tx) ∧ (xI f_2 z) ∧ (gOK K g.2 tt) ∧ (xEk [12, 13, 14, 32, 38, 44, 49, 50, 832, 838, 844, 849, 850, 1603, 1604, 1605, 1606] f a g f_2 z g) ∧ (z 56 = a 56 ∧ z 57 = a 57)) (va_up a 54 u3) ⟨hP, hD, (xI_a hI (by decide)), hG, (xEk_a hE (by decide)), hk0⟩ (fun a_5 ea_5 hq => ?_)
  obtain ⟨hP, hD, hI, hG, hE, hk0⟩ := hq
  exact kV_ret hx hb hr hlocks hK hS dX10_clear_18 (f_2, a_5, g) hP hD ⟨hI, hG, hE, hk0, ((show f_2 1632 = f_1 1632 from by rw [← ef_2]; rfl).trans (show f_1 1632 = 0 from by rw [← ef_1]; rfl))⟩
set_option maxHeartbeats 4000000 in
set_option maxRecDepth 100000 in
theorem y_read  (l : Launch) {D : va_G} {K : Nat → ClassId} (r : Nat → Nat) (f : Nat → Int32) (a : Nat → Nat → Int32) (g : xG) (tx tt : va_W) (hT : ∀ c ∈ tt, c ∈ tx) (hI : xI f a) (hG : gOK K g.2 tt) (len_ : Int32) (isO : Int32) (blen_ : kb 0 len_ 400) (bisO : kb 0 isO 1) (S : Nat) (ob : Bool) (hp0 : len_.toInt = (S : Int)) (hp1 : isO = (if ob = true then 1 else 0)) : kIG l yX4_read (Cond.code yX4_read cX4_read 5 (some .int) :: kG) (rmD 28 0 0) D K [.ref (r 50), .ref (r 93), .int len_, .int isO] (xX K r f a g tx) (fun v (u : xS) => kb (-2147483648) v 2147483647 ∧ xI u.1 u.2.1 ∧ gOK K u.2.2.2 tt ∧ xEk [12, 13, 14, 32, 38, 44, 49, 50, 832, 838, 844, 849, 850] f a g u.1 u.2.1 u.2.2 ∧ (∃ b : Bool, txR ob (a 93) S b v)) (fun u => xX K r u.1 u.2.1 u.2.2 tx) 0 0 := by
  refine kIE.of (cc := cX4_read) (maxL := 5) (ret := (some .int)) (by decide) rfl (Nat.le_of_ble_eq_true rfl) ?_
  intro p e s m below meth c A hx hb hr hml hown hts hlocks hnm hK hP hD hS hA hV ls hl
  have hE : xEk [12, 13, 14, 32, 38, 44, 49, 50, 832, 838, 844, 849, 850] f a g f a g := xEk_rf
  have hg : ∀ w ∈ kG, w.before _ s = true := fun w h => hts w (List.mem_cons_of_mem _ h)
  have hown : s.vm.findClass RX4 = some m.cls := hown
  have hl : lv_has ls 5 [(0, .ref (r 50)), (1, .ref (r 93)), (2, .int len_), (3, .int isO)] := hl
  cases ob
  · have hisO : isO = (if false = true then 1 else 0) := hp1
    have hiz : isO = 0 := hisO.trans (if_neg (by decide))
    have b1 : kb 0 isO 0 := (by rw [hiz]; exact ⟨by decide +kernel, by decide +kernel⟩)
    refine lv_aload_n hx hb dX4_read_0 rfl (lv_at hl 0 rfl) ?_
    refine lv_aload_n hx hb dX4_read_1 rfl (lv_at hl 1 rfl) ?_
    refine lv_iload_n hx hb dX4_read_2 rfl (lv_at hl 2 rfl) ?_
    refine lv_aload_n hx hb dX4_read_3 rfl (lv_at hl 1 rfl) ?_
    refine va_alen (v := 400) hx hb hK hP 93 1 rfl rfl rfl dX4_read_4 ?_
    refine lv_sipush (v := 400) hx hb dX4_read_5 (by decide) ?_
    refine va_mmin hx hb (hml.trans hl.1.symm) hown (hg _ wt3_157) (hg _ wt3_52) (hg _ wt1_9) (hg _ wt3_53) (by decide) (Nat.le_of_ble_eq_true rfl) (by decide) (by decide) dX4_read_8 ?_
    refine lv_topi (fun t2 et2 => ?_)
    have b3 : kb 400 t2 400 := kb_eq et2 (kb_mn kc_400 kc_400 (by decide) (by decide) (by decide) (by decide))
    refine va_mmin hx hb (hml.trans hl.1.symm) hown (hg _ wt3_157) (hg _ wt3_52) (hg _ wt1_9) (hg _ wt3_53) (by decide) (Nat.le_of_ble_eq_true rfl) (by decide) (by decide) dX4_read_11 ?_
    refine lv_topi (fun t4 et4 => ?_)
    have b5 : kb 0 t4 400 := kb_eq et4 (kb_mn blen_ b3 (by decide) (by decide) (by decide) (by decide))
    refine kVG.callW (As := [.ref (r 93), .int t4]) (rest := []) ⟨hx, hb, hml, hown, hg⟩ (y_split l r f a g tx tt hT hI hG t4 b5 S (by rw [et4]; exact min_S hp0 (by have w1 := (b3).1; have w2 := blen_.2; omega))) (cwV 2 hg (kgV wt3_158 wt3_160 wp1_9 wt1_7 wt3_161) rfl rfl rfl (by decide +kernel) ⟨by decide, by decide⟩) hV hK hP hD hS hA (50) 4 rfl rfl rfl hl.1 rfl (Nat.le_of_ble_eq_true rfl) dX4_read_14 ⟨Nat.le_refl _, Nat.le_refl _⟩ (fun u8 H locs hw6 hP hD hS => ?_)
    obtain ⟨f9, a10, g11⟩ := u8
    have hP : va_P D vwCl (xX K r f9 a10 g11 tx) H := hP
    have hD : va_D A (xX K r f9 a10 g11 tx) := hD
    have hI : xI f9 a10 := hw6.1
    have hG : gOK K g11.2 tt := hw6.2.1
    have eE12 : xEk [12, 13, 14, 32, 38, 44, 49, 50, 832, 838, 844, 849, 850] f a g f9 a10 g11 := hw6.2.2.1
    have hE : xEk [12, 13, 14, 32, 38, 44, 49, 50, 832, 838, 844, 849, 850] f a g f9 a10 g11 := xEk_tr hE eE12
    obtain ⟨N, hN1, hN2, hsp⟩ := hw6.2.2.2
    obtain ⟨cS, ecS⟩ : ∃ z : Int32, z = f9 1603 := ⟨_, rfl⟩
    have hcS : cS.toInt = (N : Int) + 1 := by rw [ecS]; exact hN1
    refine lv_aload_n hx hb dX4_read_17 rfl (lv_at hl 0 rfl) ?_
    refine va_get (D := D) (ci := 4) (v := .ref (r 51)) (C := RX4) (T := TX4) (N := 7) hx hb hg inC4 hown hK hP 50 rfl rfl 0 (by decide) (hg _ wt2_64) (fun _ h9 => h9) rfl dX4_read_18 ?_
    refine kVG.callW (As := []) (rest := []) ⟨hx, hb, hml, hown, hg⟩ (y_clear l r f9 a10 g11 tx tt hT hI hG   ) (cwV 0 hg (kgV wt3_227 wt3_228 wt3_229 wt1_8 wt3_230) rfl rfl rfl (by decide +kernel) ⟨by decide, by decide⟩) hV hK hP hD hS hA (51) 10 rfl rfl rfl hl.1 rfl (Nat.le_of_ble_eq_true rfl) dX4_read_21 ⟨Nat.le_refl _, Nat.le_refl _⟩ (fun u15 H locs hw13 hP hD hS => ?_)
    obtain ⟨f16, a17, g18⟩ := u15
    have hP : va_P D vwCl (xX K r f16 a17 g18 tx) H := hP
    have hD : va_D A (xX K r f16 a17 g18 tx) := hD
    have hI : xI f16 a17 := hw13.1
    have hG : gOK K g18.2 tt := hw13.2.1
    have eE19 : xEk [12, 13, 14, 32, 38, 44, 49, 50, 832, 838, 844, 849, 850, 1603, 1604, 1605, 1606] f9 a10 g11 f16 a17 g18 := hw13.2.2.1
    have hE : xEk [12, 13, 14, 32, 38, 44, 49, 50, 832, 838, 844, 849, 850] f a g f16 a17 g18 := xEk_tr hE (xEk_w (by decide) eE19)
    refine lv_aload_n hx hb dX4_read_24 rfl (lv_at hl 0 rfl) ?_
    refine lv_iconst (v := 0) hx hb dX4_read_25 (by decide) ?_
    refine va_put (D := D) (ci := 4) (v := .int 0) (ty := .int) (C := RX4) (T := TX4) (N := 7) hx hb hg inC4 tyX4 tyX4_ok nmX4 hown hK hP hD hS 50 rfl rfl 4 (by decide) (hg _ wt2_69) (fun _ h9 => h9) rfl (by decide +kernel) rfl rfl (Nat.le_of_ble_eq_true rfl) dX4_read_26 (fun H locs hP hD hS => ?_)
    have hP : va_P D vwCl (xX K r (upd f16 1604 0) a17 g18 tx) H := hP
    have hD : va_D A (xX K r (upd f16 1604 0) a17 g18 tx) := hD
    refine k_gen (P := fun z => va_P D vwCl (xX K r z a17 g18 tx) H ∧ va_D A (xX K r z a17 g18 tx) ∧ (xI z a17) ∧ (gOK K g18.2 tt) ∧ (xEk [12, 13, 14, 32, 38, 44, 49, 50, 832, 838, 844, 849, 850] f a g z a17 g18)) (upd f16 1604 0) ⟨hP, hD, (xI_f hI (fI_st hI.1 1604 (kb_any _) (by decide) (by decide))), hG, (xEk_f hE (by decide))⟩ (fun f_20 ef_20 hq => ?_)
    obtain ⟨hP, hD, hI, hG, hE⟩ := hq
    refine lv_aload_n hx hb dX4_read_29 rfl (lv_at hl 0 rfl) ?_
    refine lv_iconst (v := 0) hx hb dX4_read_30 (by decide) ?_
    refine va_put (D := D) (ci := 4) (v := .int 0) (ty := .int) (C := RX4) (T := TX4) (N := 7) hx hb hg inC4 tyX4 tyX4_ok nmX4 hown hK hP hD hS 50 rfl rfl 5 (by decide) (hg _ wt2_70) (fun _ h9 => h9) rfl (by decide +kernel) rfl rfl (Nat.le_of_ble_eq_true rfl) dX4_read_31 (fun H locs hP hD hS => ?_)
    have hP : va_P D vwCl (xX K r (upd f_20 1605 0) a17 g18 tx) H := hP
    have hD : va_D A (xX K r (upd f_20 1605 0) a17 g18 tx) := hD
    refine k_gen (P := fun z => va_P D vwCl (xX K r z a17 g18 tx) H ∧ va_D A (xX K r z a17 g18 tx) ∧ (xI z a17) ∧ (gOK K g18.2 tt) ∧ (xEk [12, 13, 14, 32, 38, 44, 49, 50, 832, 838, 844, 849, 850] f a g z a17 g18)) (upd f_20 1605 0) ⟨hP, hD, (xI_f hI (fI_st hI.1 1605 (kb_any _) (by decide) (by decide))), hG, (xEk_f hE (by decide))⟩ (fun f_21 ef_21 hq => ?_)
    obtain ⟨hP, hD, hI, hG, hE⟩ := hq
    refine lv_aload_n hx hb dX4_read_34 rfl (lv_at hl 0 rfl) ?_
    refine lv_iload_n hx hb dX4_read_35 rfl (lv_at hl 3 rfl) ?_
    refine va_put (D := D) (ci := 4) (v := .int isO) (ty := .boolean) (C := RX4) (T := TX4) (N := 7) hx hb hg inC4 tyX4 tyX4_ok nmX4 hown hK hP hD hS 50 rfl rfl 6 (by decide) (hg _ wt2_71) (fun _ h9 => h9) rfl (by decide +kernel) (kb_bo (kb_w b1 (by decide) (by decide))) (kb_fit (kb_w b1 (by decide) (by decide))) (Nat.le_of_ble_eq_true rfl) dX4_read_36 (fun H locs hP hD hS => ?_)
    have hP : va_P D vwCl (xX K r (upd f_21 1606 isO) a17 g18 tx) H := hP
    have hD : va_D A (xX K r (upd f_21 1606 isO) a17 g18 tx) := hD
    refine k_gen (P := fun z => va_P D vwCl (xX K r z a17 g18 tx) H ∧ va_D A (xX K r z a17 g18 tx) ∧ (xI z a17) ∧ (gOK K g18.2 tt) ∧ (xEk [12, 13, 14, 32, 38, 44, 49, 50, 832, 838, 844, 849, 850] f a g z a17 g18)) (upd f_21 1606 isO) ⟨hP, hD, (xI_f hI (fI_st hI.1 1606 (kb_any _) (by decide) (by decide))), hG, (xEk_f hE (by decide))⟩ (fun f_22 ef_22 hq => ?_)
    obtain ⟨hP, hD, hI, hG, hE⟩ := hq
    obtain ⟨T, hTd⟩ : ∃ T : Nat → Int32, T = tkT (a 93) S := ⟨_, rfl⟩
    obtain ⟨pl, hpd⟩ : ∃ pl : Nat → Int32, pl = pcT (a 93) S := ⟨_, rfl⟩
    have h56 : a17 56 = a10 56 ∧ a17 57 = a10 57 := hw13.2.2.2.1
    have hN4 := hN2
    have hk0 : xQ f_22 a17 N false T pl := ⟨by rw [((show f_22 1603 = f_21 1603 from by rw [← ef_22]; rfl).trans ((show f_21 1603 = f_20 1603 from by rw [← ef_21]; rfl).trans ((show f_20 1603 = f16 1603 from by rw [← ef_20]; rfl).trans ((eE19.1 1603 rfl).trans ecS.symm))))]; exact hcS, hN2, ((show f_22 1606 = isO from by rw [← ef_22]; rfl)).trans hisO, fun k hk => by rw [h56.1, hTd]; exact hsp.2.2.1 k hk, fun k hk => by rw [h56.2, hpd]; exact hsp.2.2.2 k hk, fun k hk => by rw [hTd]; exact tkT_e hsp.1 hk, fun k => by rw [hTd]; exact tkT_b k⟩
    refine lv_iconst (v := 0) hx hb dX4_read_39 (by decide) ?_
    refine lv_istore (lv' := [(4, .int 0), (0, .ref (r 50)), (1, .ref (r 93)), (2, .int len_), (3, .int isO)]) hx hb dX4_read_40 hl (by decide) rfl (fun ls hl => ?_)
    have lp27 : ∀ (n28 : Nat) (i0 : Nat) (n0 : Nat) (cn : Nat) (F24 : Nat → Int32) (B25 : Nat → Nat → Int32) (G26 : xG) (H : Heap) (locs : List Loc) (ls : Array Slot) (y23 : Int32), (12 < y23.toInt + (n28 : Int)) → (xI F24 B25) → (gOK K G26.2 tt) → (xEk [12, 13, 14, 32, 38, 44, 49, 50, 832, 838, 844, 849, 850] f a g F24 B25 G26) → (xQ F24 B25 N false T pl) → (kb 0 y23 12) → ((F24 1604).toInt = (i0 : Int)) → (i0 ≤ N) → ((F24 1605).toInt = (n0 : Int) ∧ n0 ≤ 50) → (y23.toInt = (cn : Int) ∧ cn ≤ 12) → ((F24 1632).toInt = (cn : Int)) → (∀ r, pT false T N (12 - cn) i0 n0 r → pT false T N 12 0 0 r) → va_P D vwCl (xX K r F24 B25 G26 tx) H → va_D A (xX K r F24 B25 G26 tx) → va_S A s.heap H locs → lv_has ls 5 [(4, .int y23), (0, .ref (r 50)), (1, .ref (r 93)), (2, .int len_), (3, .int isO)] → W p l e (rmD 28 0 0) s m ([.ref (r 50), .ref (r 93), .int len_, .int isO] : List Value).toArray below meth c H locs 0 0 (kQi D (tysK K) (fun v (u : xS) => kb (-2147483648) v 2147483647 ∧ xI u.1 u.2.1 ∧ gOK K u.2.2.2 tt ∧ xEk [12, 13, 14, 32, 38, 44, 49, 50, 832, 838, 844, 849, 850] f a g u.1 u.2.1 u.2.2 ∧ (∃ b : Bool, txR false (a 93) S b v)) (fun u => xX K r u.1 u.2.1 u.2.2 tx) A below ([.ref (r 50), .ref (r 93), .int len_, .int isO] : List Value).toArray s 0 0) (F0 m 42 ls []) := by
      intro n28
      induction n28 with
      | zero =>
        intro i0 n0 cn F24 B25 G26  H locs ls y23 hmlp27 hI hG hE hk0 b29 hvlp27_0 hvlp27_1 hvlp27_2 hvlp27_3 hvlp27_4 hvlp27_5 hP hD hS hl
        exact (by have h1 := b29.2; have h2 := hmlp27; omega : False).elim
      | succ n28 ihlp27 =>
        intro i0 n0 cn F24 B25 G26  H locs ls y23 hmlp27 hI hG hE hk0 b29 hvlp27_0 hvlp27_1 hvlp27_2 hvlp27_3 hvlp27_4 hvlp27_5 hP hD hS hl
        obtain ⟨gv30, egv30⟩ : ∃ z : Int32, z = F24 1604 := ⟨_, rfl⟩
        have hg31 : gv30.toInt = ((i0 : Nat) : Int) := by rw [egv30]; exact hvlp27_0
        have b32 : kb 0 gv30 400 := kb_pos hvlp27_1 hN4 hg31
        obtain ⟨z33, ez33⟩ : ∃ z : Int32, z = F24 1605 := ⟨_, rfl⟩
        have hzz33 : z33.toInt = ((n0 : Nat) : Int) := by rw [ez33]; exact hvlp27_2.1
        have b34 : kb 0 z33 50 := ⟨by omega, by have w1 := hvlp27_2.2; omega⟩
        obtain ⟨cC, ecC⟩ : ∃ z : Int32, z = F24 1632 := ⟨_, rfl⟩
        have hcC : cC.toInt = (cn : Int) := by rw [ecC]; exact hvlp27_4
        have xo := hvlp27_5
        refine lv_iload hx hb dX4_read_42 (lv_at hl 0 rfl) ?_
        refine lv_bipush (v := 12) hx hb dX4_read_44 (by decide) ?_
        refine lv_icmp_ge (tgt := 159) hx hb dX4_read_46 (by decide) (fun c35 => ?_) (fun c35 => ?_)
        · have h36 := (kc_le c35)
          have b37 : kb 12 y23 12 := kr_le2 h36 kc_12 b29
          refine lv_aload_n hx hb dX4_read_159 rfl (lv_at hl 1 rfl) ?_
          refine kIG.callW (As := []) (rest := []) ⟨hx, hb, hml, hown, hg⟩ (y_placeInHand l r F24 B25 G26 tx tt hT hI hG   N (i0) false T pl hk0 (by rw [egv30.symm]; exact hg31) hvlp27_1) (cwV 0 hg (kgV wt4_46 wt4_48 wp2_4 wt1_7 wt4_49) rfl rfl rfl (by decide +kernel) ⟨by decide, by decide⟩) hV hK hP hD hS hA (50) 4 rfl rfl rfl hl.1 rfl (Nat.le_of_ble_eq_true rfl) dX4_read_160 ⟨Nat.le_refl _, Nat.le_refl _⟩ (fun v39 u40 H locs hw38 hP hD hS => ?_)
          have hP : va_P D vwCl (xX K r F24 B25 G26 tx) H := hP
          have hD : va_D A (xX K r F24 B25 G26 tx) := hD
          exact kI_ret (v := v39) hx hb hr hlocks rfl hK hS dX4_read_163 (F24, B25, G26) hP hD ⟨(kb_any v39), hI, hG, hE, ⟨false, N, i0, hsp.1, hsp.2.1, (by rw [← hTd]; exact xo _ (by rw [show 12 - cn = 0 by have w1 := hvlp27_3; have w3 : (12 : Int32).toInt = 12 := (by decide +kernel); first | (have w2 := kc_le c35; omega) | (have w2 := kc_nlt c35; omega)]; exact rfl)), (hw38.2.trans (congrFun hpd _))⟩⟩
        · have h41 := (kc_nle c35)
          have b42 : kb 0 y23 11 := kr_lt1 h41 b29 kc_12 (by decide)
          have hc12 : cn < 12 := by have w1 := hvlp27_3; have w3 : (12 : Int32).toInt = 12 := (by decide +kernel); first | (have w2 := kc_nle c35; omega) | (have w2 := kc_lt c35; omega)
          refine lv_iload_n hx hb dX4_read_49 rfl (lv_at hl 4 rfl) ?_
          refine lv_if_eq (tgt := 63) hx hb dX4_read_50 (by decide) (fun c43 => ?_) (fun c43 => ?_)
          · refine lv_aload_n hx hb dX4_read_63 rfl (lv_at hl 1 rfl) ?_
            refine kIG.callW (As := []) (rest := []) ⟨hx, hb, hml, hown, hg⟩ (y_readRule l r F24 B25 G26 tx tt hT hI hG   N (i0) (n0) cn false T pl hk0 (by rw [egv30.symm]; exact hg31) hvlp27_1 ⟨(by rw [ez33.symm]; exact hzz33), hvlp27_2.2⟩ (by rw [ecC.symm]; exact hcC) (hc12)) (cwV 0 hg (kgV wt4_42 wt4_44 wp2_3 wt1_7 wt4_45) rfl rfl rfl (by decide +kernel) ⟨by decide, by decide⟩) hV hK hP hD hS hA (50) 4 rfl rfl rfl hl.1 rfl (Nat.le_of_ble_eq_true rfl) dX4_read_64 ⟨Nat.le_refl _, Nat.le_refl _⟩ (fun v45 u46 H locs hw44 hP hD hS => ?_)
            obtain ⟨f47, a48, g49⟩ := u46
            have hP : va_P D vwCl (xX K r f47 a48 g49 tx) H := hP
            have hD : va_D A (xX K r f47 a48 g49 tx) := hD
            have hI : xI f47 a48 := hw44.2.1
            have hG : gOK K g49.2 tt := hw44.2.2.1
            have eE50 : xEk [12, 13, 14, 32, 38, 44, 49, 50, 832, 838, 844, 849, 850, 1603, 1606] F24 B25 G26 f47 a48 g49 := hw44.2.2.2.1
            have hE : xEk [12, 13, 14, 32, 38, 44, 49, 50, 832, 838, 844, 849, 850] f a g f47 a48 g49 := xEk_tr hE (xEk_w (by decide) eE50)
            have hk0 : xQ f47 a48 N false T pl := hw44.2.2.2.2.1
            obtain ⟨ik51, nk51, hgk51, hlek51, hNk51, hck51⟩ := hw44.2.2.2.2.2
            rcases hck51 with ⟨hvk51, h3k51, h4k51, hGk51⟩ | ⟨hvk51, hGk51⟩
            · refine k_top (z := 1) hvk51 ?_
              obtain ⟨gv52, egv52⟩ : ∃ z : Int32, z = f47 1604 := ⟨_, rfl⟩
              have hg53 : gv52.toInt = ((ik51 : Nat) : Int) := by rw [egv52]; exact hgk51
              have b54 : kb 0 gv52 400 := kb_pos hNk51 hN4 hg53
              obtain ⟨z55, ez55⟩ : ∃ z : Int32, z = f47 1605 := ⟨_, rfl⟩
              have hzz55 : z55.toInt = ((nk51 : Nat) : Int) := by rw [ez55]; exact h3k51.1
              have b56 : kb 0 z55 50 := ⟨by omega, by have w1 := h3k51.2; omega⟩
              obtain ⟨z57, ez57⟩ : ∃ z : Int32, z = f47 1632 := ⟨_, rfl⟩
              have hCz57 : z57.toInt = ((cn + 1 : Nat) : Int) := by rw [ez57]; exact h4k51
              refine lv_if_ne (tgt := 75) hx hb dX4_read_67 (by decide) (fun c58 => ?_) (fun c58 => ?_)
              · refine lv_aload_n hx hb dX4_read_75 rfl (lv_at hl 1 rfl) ?_
                refine kIG.callW (As := []) (rest := []) ⟨hx, hb, hml, hown, hg⟩ (y_inHand l r f47 a48 g49 tx tt hT hI hG   N (ik51) false T pl hk0 (by rw [egv52.symm]; exact hg53) hNk51) (cwV 0 hg (kgV wt3_238 wt4_0 wp1_12 wt1_7 wt4_1) rfl rfl rfl (by decide +kernel) ⟨by decide, by decide⟩) hV hK hP hD hS hA (50) 4 rfl rfl rfl hl.1 rfl (Nat.le_of_ble_eq_true rfl) dX4_read_76 ⟨Nat.le_refl _, Nat.le_refl _⟩ (fun v60 u61 H locs hw59 hP hD hS => ?_)
                have hP : va_P D vwCl (xX K r f47 a48 g49 tx) H := hP
                have hD : va_D A (xX K r f47 a48 g49 tx) := hD
                have b62 : kb 0 v60 4000 := kb_eq hw59.2 (hk0.2.2.2.2.2.2 (ik51))
                refine lv_sipush (v := 2003) hx hb dX4_read_79 (by decide) ?_
                refine lv_icmp_ne (tgt := 108) hx hb dX4_read_82 (by decide) (fun c63 => ?_) (fun c63 => ?_)
                · refine lv_aload_n hx hb dX4_read_108 rfl (lv_at hl 1 rfl) ?_
                  refine va_get (D := D) (ci := 4) (v := .ref (r 51)) (C := RX4) (T := TX4) (N := 7) hx hb hg inC4 hown hK hP 50 rfl rfl 0 (by decide) (hg _ wt2_64) (fun _ h9 => h9) rfl dX4_read_109 ?_
                  refine lv_iconst (v := 2) hx hb dX4_read_112 (by decide) ?_
                  refine kVG.callW (As := [.int 2]) (rest := []) ⟨hx, hb, hml, hown, hg⟩ (y_close l r f47 a48 g49 tx tt hT hI hG 2 (kb_w kc_2 (by decide) (by decide)) ) (cwV 1 hg (kgV wt4_30 wt4_31 wt4_32 wt1_8 wt4_33) rfl rfl rfl (by decide +kernel) ⟨by decide, by decide⟩) hV hK hP hD hS hA (51) 10 rfl rfl rfl hl.1 rfl (Nat.le_of_ble_eq_true rfl) dX4_read_113 ⟨Nat.le_refl _, Nat.le_refl _⟩ (fun u66 H locs hw64 hP hD hS => ?_)
                  obtain ⟨f67, a68, g69⟩ := u66
                  have hP : va_P D vwCl (xX K r f67 a68 g69 tx) H := hP
                  have hD : va_D A (xX K r f67 a68 g69 tx) := hD
                  have hI : xI f67 a68 := hw64.1
                  have hG : gOK K g69.2 tt := hw64.2.1
                  have eE70 : xEk [12, 13, 14, 32, 38, 44, 49, 50, 832, 838, 844, 849, 850, 1603, 1604, 1605, 1606, 1632] f47 a48 g49 f67 a68 g69 := hw64.2.2.1
                  have hE : xEk [12, 13, 14, 32, 38, 44, 49, 50, 832, 838, 844, 849, 850] f a g f67 a68 g69 := xEk_tr hE (xEk_w (by decide) eE70)
                  have hk0 : xQ f67 a68 N false T pl := xQ_c hk0 (eE70.1 1603 rfl) (eE70.1 1606 rfl) hw64.2.2.2
                  refine lv_aload_n hx hb dX4_read_116 rfl (lv_at hl 1 rfl) ?_
                  refine kIG.callW (As := []) (rest := []) ⟨hx, hb, hml, hown, hg⟩ (y_inHand l r f67 a68 g69 tx tt hT hI hG   N (ik51) false T pl hk0 (by rw [((eE70.1 1604 rfl).trans egv52.symm)]; exact hg53) hNk51) (cwV 0 hg (kgV wt3_238 wt4_0 wp1_12 wt1_7 wt4_1) rfl rfl rfl (by decide +kernel) ⟨by decide, by decide⟩) hV hK hP hD hS hA (50) 4 rfl rfl rfl hl.1 rfl (Nat.le_of_ble_eq_true rfl) dX4_read_117 ⟨Nat.le_refl _, Nat.le_refl _⟩ (fun v72 u73 H locs hw71 hP hD hS => ?_)
                  have hP : va_P D vwCl (xX K r f67 a68 g69 tx) H := hP
                  have hD : va_D A (xX K r f67 a68 g69 tx) := hD
                  have b74 : kb 0 v72 4000 := kb_eq hw71.2 (hk0.2.2.2.2.2.2 (ik51))
                  refine lv_sipush (v := 4000) hx hb dX4_read_120 (by decide) ?_
                  refine lv_icmp_ne (tgt := 128) hx hb dX4_read_123 (by decide) (fun c75 => ?_) (fun c75 => ?_)
                  · have b76 : kb 0 v72 3999 := kr_neh c75 b74 kc_4000 (by decide)
                    refine lv_aload_n hx hb dX4_read_128 rfl (lv_at hl 1 rfl) ?_
                    refine kIG.callW (As := []) (rest := []) ⟨hx, hb, hml, hown, hg⟩ (y_inHand l r f67 a68 g69 tx tt hT hI hG   N (ik51) false T pl hk0 (by rw [((eE70.1 1604 rfl).trans egv52.symm)]; exact hg53) hNk51) (cwV 0 hg (kgV wt3_238 wt4_0 wp1_12 wt1_7 wt4_1) rfl rfl rfl (by decide +kernel) ⟨by decide, by decide⟩) hV hK hP hD hS hA (50) 4 rfl rfl rfl hl.1 rfl (Nat.le_of_ble_eq_true rfl) dX4_read_129 ⟨Nat.le_refl _, Nat.le_refl _⟩ (fun v78 u79 H locs hw77 hP hD hS => ?_)
                    have hP : va_P D vwCl (xX K r f67 a68 g69 tx) H := hP
                    have hD : va_D A (xX K r f67 a68 g69 tx) := hD
                    have b80 : kb 0 v78 4000 := kb_eq hw77.2 (hk0.2.2.2.2.2.2 (ik51))
                    refine lv_sipush (v := 3059) hx hb dX4_read_132 (by decide) ?_
                    refine lv_icmp_eq (tgt := 143) hx hb dX4_read_135 (by decide) (fun c81 => ?_) (fun c81 => ?_)
                    · have b82 : kb 3059 v78 3059 := kb_eq c81 kc_3059
                      refine lv_aload_n hx hb dX4_read_143 rfl (lv_at hl 1 rfl) ?_
                      refine lv_dup hx hb dX4_read_144 rfl ?_
                      have hlt83 : ik51 < N := xQ_lt hk0 (ne_4000 (hw77.2.symm.trans c81) (by decide +kernel))
                      have b84 : kb 0 gv52 399 := kb_pos1 hlt83 hN4 hg53
                      refine va_get (D := D) (ci := 4) (v := .int (f67 1604)) (C := RX4) (T := TX4) (N := 7) hx hb hg inC4 hown hK hP 50 rfl rfl 4 (by decide) (hg _ wt2_69) (fun _ h9 => h9) rfl dX4_read_145 ?_
                      refine k_top (z := gv52) ((eE70.1 1604 rfl).trans egv52.symm) ?_
                      refine lv_iconst (v := 1) hx hb dX4_read_148 (by decide) ?_
                      refine lv_iadd hx hb dX4_read_149 ?_
                      refine lv_topi (fun t85 et85 => ?_)
                      have b86 : kb 1 t85 400 := kb_eq et85 (kb_add b84 kc_1 (by decide) (by decide))
                      have qt85 : t85.toInt = gv52.toInt + 1 := by rw [et85]; exact kt_addc b84 kc_1 (by decide) (by decide)
                      have hg87 : t85.toInt = ((ik51 + 1 : Nat) : Int) := by rw [qt85, hg53]; omega
                      refine va_put (D := D) (ci := 4) (v := .int t85) (ty := .int) (C := RX4) (T := TX4) (N := 7) hx hb hg inC4 tyX4 tyX4_ok nmX4 hown hK hP hD hS 50 rfl rfl 4 (by decide) (hg _ wt2_69) (fun _ h9 => h9) rfl (by decide +kernel) rfl rfl (Nat.le_of_ble_eq_true rfl) dX4_read_150 (fun H locs hP hD hS => ?_)
                      have hP : va_P D vwCl (xX K r (upd f67 1604 t85) a68 g69 tx) H := hP
                      have hD : va_D A (xX K r (upd f67 1604 t85) a68 g69 tx) := hD
                      refine k_gen (P := fun z => va_P D vwCl (xX K r z a68 g69 tx) H ∧ va_D A (xX K r z a68 g69 tx) ∧ (xI z a68) ∧ (gOK K g69.2 tt) ∧ (xEk [12, 13, 14, 32, 38, 44, 49, 50, 832, 838, 844, 849, 850] f a g z a68 g69) ∧ (xQ z a68 N false T pl)) (upd f67 1604 t85) ⟨hP, hD, (xI_f hI (fI_st hI.1 1604 (kb_any _) (by decide) (by decide))), hG, (xEk_f hE (by decide)), (xQ_f hk0 (by decide) (by decide))⟩ (fun f_88 ef_88 hq => ?_)
                      obtain ⟨hP, hD, hI, hG, hE, hk0⟩ := hq
                      obtain ⟨t89, et89⟩ : ∃ z : Int32, z = y23 + Int32.ofInt 1 := ⟨_, rfl⟩
                      have qt89 : t89.toInt = y23.toInt + 1 := by rw [et89]; exact km_inc b42 (by decide) (by decide)
                      have b90 : kb 1 t89 12 := kb_inc (k := 1) qt89 b42
                      refine lv_iinc (v := t89) (lv' := [(4, .int t89), (0, .ref (r 50)), (1, .ref (r 93)), (2, .int len_), (3, .int isO)]) hx hb dX4_read_153 hl (k := 0) rfl et89.symm (by decide) rfl (fun ls hl => ?_)
                      refine lv_goto (tgt := 42) hx hb dX4_read_156 (by decide) ?_
                      exact ihlp27 (ik51 + 1) (nk51) (cn + 1) f_88 a68 g69 _ _ _ t89 (km_up hmlp27 qt89) hI hG hE hk0 (kb_w b90 (by decide) (by decide)) (by rw [(show f_88 1604 = t85 from by rw [← ef_88]; rfl)]; exact hg87) (hlt83) (⟨(by rw [((show f_88 1605 = f67 1605 from by rw [← ef_88]; rfl).trans ((eE70.1 1605 rfl).trans ez55.symm))]; exact hzz55), h3k51.2⟩) (⟨by have w1 := hvlp27_3; omega, hc12⟩) (by rw [((show f_88 1632 = f67 1632 from by rw [← ef_88]; rfl).trans ((eE70.1 1632 rfl).trans ez57.symm))]; exact hCz57) (fun r h => xo r (c12 hc12 (pT_s (hGk51 _ (pi_12n (fun q => c63 (hw59.2.trans q)))) (Or.inl ⟨(hw77.2.symm.trans c81), h⟩)))) hP hD hS (lv_sub hl [0, 1, 2, 3, 4] rfl)
                    · refine lv_aload_n hx hb dX4_read_138 rfl (lv_at hl 1 rfl) ?_
                      refine kIG.callW (As := []) (rest := []) ⟨hx, hb, hml, hown, hg⟩ (y_placeInHand l r f67 a68 g69 tx tt hT hI hG   N (ik51) false T pl hk0 (by rw [((eE70.1 1604 rfl).trans egv52.symm)]; exact hg53) hNk51) (cwV 0 hg (kgV wt4_46 wt4_48 wp2_4 wt1_7 wt4_49) rfl rfl rfl (by decide +kernel) ⟨by decide, by decide⟩) hV hK hP hD hS hA (50) 4 rfl rfl rfl hl.1 rfl (Nat.le_of_ble_eq_true rfl) dX4_read_139 ⟨Nat.le_refl _, Nat.le_refl _⟩ (fun v92 u93 H locs hw91 hP hD hS => ?_)
                      have hP : va_P D vwCl (xX K r f67 a68 g69 tx) H := hP
                      have hD : va_D A (xX K r f67 a68 g69 tx) := hD
                      exact kI_ret (v := v92) hx hb hr hlocks rfl hK hS dX4_read_142 (f67, a68, g69) hP hD ⟨(kb_any v92), hI, hG, hE, ⟨false, N, ik51, hsp.1, hsp.2.1, (by rw [← hTd]; exact xo _ (c12 hc12 (pT_s (hGk51 _ (pi_12n (fun q => c63 (hw59.2.trans q)))) (Or.inr (Or.inl ⟨(fun q => c81 (hw77.2.trans q)), xQ_lt hk0 (fun q => c75 (hw71.2.trans q)), rfl⟩))))), (hw91.2.trans (congrFun hpd _))⟩⟩
                  · have b94 : kb 4000 v72 4000 := kb_eq c75 kc_4000
                    refine lv_iconst (v := (-1)) hx hb dX4_read_126 (by decide) ?_
                    exact kI_ret (v := (-1)) hx hb hr hlocks rfl hK hS dX4_read_127 (f67, a68, g69) hP hD ⟨(kb_w kc_m1 (by decide) (by decide)), hI, hG, hE, ⟨true, N, ik51, hsp.1, hsp.2.1, (by rw [← hTd]; exact xo _ (c12 hc12 (pT_s (hGk51 _ (pi_12n (fun q => c63 (hw59.2.trans q)))) (Or.inr (Or.inr ⟨(fun q => absurd ((hw71.2.symm.trans c75).symm.trans q) (by decide +kernel)), tk_end hsp.2.1 (by rw [← hTd]; exact (hw71.2.symm.trans c75)), rfl⟩))))), rfl⟩⟩
                · have b95 : kb 2003 v60 2003 := kb_eq c63 kc_2003
                  refine lv_aload_n hx hb dX4_read_85 rfl (lv_at hl 1 rfl) ?_
                  refine lv_dup hx hb dX4_read_86 rfl ?_
                  have hlt96 : ik51 < N := xQ_lt hk0 (ne_4000 (hw59.2.symm.trans c63) (by decide +kernel))
                  have b97 : kb 0 gv52 399 := kb_pos1 hlt96 hN4 hg53
                  refine va_get (D := D) (ci := 4) (v := .int (f47 1604)) (C := RX4) (T := TX4) (N := 7) hx hb hg inC4 hown hK hP 50 rfl rfl 4 (by decide) (hg _ wt2_69) (fun _ h9 => h9) rfl dX4_read_87 ?_
                  refine k_top (z := gv52) egv52.symm ?_
                  refine lv_iconst (v := 1) hx hb dX4_read_90 (by decide) ?_
                  refine lv_iadd hx hb dX4_read_91 ?_
                  refine lv_topi (fun t98 et98 => ?_)
                  have b99 : kb 1 t98 400 := kb_eq et98 (kb_add b97 kc_1 (by decide) (by decide))
                  have qt98 : t98.toInt = gv52.toInt + 1 := by rw [et98]; exact kt_addc b97 kc_1 (by decide) (by decide)
                  have hg100 : t98.toInt = ((ik51 + 1 : Nat) : Int) := by rw [qt98, hg53]; omega
                  refine va_put (D := D) (ci := 4) (v := .int t98) (ty := .int) (C := RX4) (T := TX4) (N := 7) hx hb hg inC4 tyX4 tyX4_ok nmX4 hown hK hP hD hS 50 rfl rfl 4 (by decide) (hg _ wt2_69) (fun _ h9 => h9) rfl (by decide +kernel) rfl rfl (Nat.le_of_ble_eq_true rfl) dX4_read_92 (fun H locs hP hD hS => ?_)
                  have hP : va_P D vwCl (xX K r (upd f47 1604 t98) a48 g49 tx) H := hP
                  have hD : va_D A (xX K r (upd f47 1604 t98) a48 g49 tx) := hD
                  refine k_gen (P := fun z => va_P D vwCl (xX K r z a48 g49 tx) H ∧ va_D A (xX K r z a48 g49 tx) ∧ (xI z a48) ∧ (gOK K g49.2 tt) ∧ (xEk [12, 13, 14, 32, 38, 44, 49, 50, 832, 838, 844, 849, 850] f a g z a48 g49) ∧ (xQ z a48 N false T pl)) (upd f47 1604 t98) ⟨hP, hD, (xI_f hI (fI_st hI.1 1604 (kb_any _) (by decide) (by decide))), hG, (xEk_f hE (by decide)), (xQ_f hk0 (by decide) (by decide))⟩ (fun f_101 ef_101 hq => ?_)
                  obtain ⟨hP, hD, hI, hG, hE, hk0⟩ := hq
                  refine lv_aload_n hx hb dX4_read_95 rfl (lv_at hl 1 rfl) ?_
                  refine lv_iconst (v := 0) hx hb dX4_read_96 (by decide) ?_
                  refine kIG.callW (As := [.int 0]) (rest := []) ⟨hx, hb, hml, hown, hg⟩ ((y_allTest 8) l r f_101 a48 g49 tx tt hT hI hG 0 (kb_w kc_0 (by decide) (by decide)) N (ik51 + 1) (nk51) false T pl hk0 (by rw [(show f_101 1604 = t98 from by rw [← ef_101]; rfl)]; exact hg100) hlt96 ⟨(by rw [((show f_101 1605 = f47 1605 from by rw [← ef_101]; rfl).trans ez55.symm)]; exact hzz55), h3k51.2⟩ (by decide +kernel)) (cwV 1 hg (kgV wt4_50 wt4_52 wp2_5 wt1_7 wt4_53) rfl rfl rfl (by decide +kernel) ⟨by decide, by decide⟩) hV hK hP hD hS hA (50) 4 rfl rfl rfl hl.1 rfl (Nat.le_of_ble_eq_true rfl) dX4_read_97 ⟨Nat.le_refl _, Nat.le_refl _⟩ (fun v103 u104 H locs hw102 hP hD hS => ?_)
                  obtain ⟨f105, a106, g107⟩ := u104
                  have hP : va_P D vwCl (xX K r f105 a106 g107 tx) H := hP
                  have hD : va_D A (xX K r f105 a106 g107 tx) := hD
                  have hI : xI f105 a106 := hw102.2.1
                  have hG : gOK K g107.2 tt := hw102.2.2.1
                  have eE108 : xEk [12, 13, 14, 32, 38, 44, 49, 50, 832, 838, 844, 849, 850, 1603, 1606, 1632] f_101 a48 g49 f105 a106 g107 := hw102.2.2.2.1
                  have hE : xEk [12, 13, 14, 32, 38, 44, 49, 50, 832, 838, 844, 849, 850] f a g f105 a106 g107 := xEk_tr hE (xEk_w (by decide) eE108)
                  have hk0 : xQ f105 a106 N false T pl := hw102.2.2.2.2.1
                  obtain ⟨ik109, nk109, hgk109, hlek109, hNk109, hck109⟩ := hw102.2.2.2.2.2
                  rcases hck109 with ⟨hvk109, h3k109, hltk109, hGk109⟩ | ⟨hvk109, hGk109⟩
                  · refine k_top (z := 1) hvk109 ?_
                    obtain ⟨gv110, egv110⟩ : ∃ z : Int32, z = f105 1604 := ⟨_, rfl⟩
                    have hg111 : gv110.toInt = ((ik109 : Nat) : Int) := by rw [egv110]; exact hgk109
                    have b112 : kb 0 gv110 400 := kb_pos hNk109 hN4 hg111
                    obtain ⟨z113, ez113⟩ : ∃ z : Int32, z = f105 1605 := ⟨_, rfl⟩
                    have hzz113 : z113.toInt = ((nk109 : Nat) : Int) := by rw [ez113]; exact h3k109.1
                    have b114 : kb 0 z113 50 := ⟨by omega, by have w1 := h3k109.2; omega⟩
                    refine lv_if_ne (tgt := 108) hx hb dX4_read_100 (by decide) (fun c115 => ?_) (fun c115 => ?_)
                    · refine lv_aload_n hx hb dX4_read_108 rfl (lv_at hl 1 rfl) ?_
                      refine va_get (D := D) (ci := 4) (v := .ref (r 51)) (C := RX4) (T := TX4) (N := 7) hx hb hg inC4 hown hK hP 50 rfl rfl 0 (by decide) (hg _ wt2_64) (fun _ h9 => h9) rfl dX4_read_109 ?_
                      refine lv_iconst (v := 2) hx hb dX4_read_112 (by decide) ?_
                      refine kVG.callW (As := [.int 2]) (rest := []) ⟨hx, hb, hml, hown, hg⟩ (y_close l r f105 a106 g107 tx tt hT hI hG 2 (kb_w kc_2 (by decide) (by decide)) ) (cwV 1 hg (kgV wt4_30 wt4_31 wt4_32 wt1_8 wt4_33) rfl rfl rfl (by decide +kernel) ⟨by decide, by decide⟩) hV hK hP hD hS hA (51) 10 rfl rfl rfl hl.1 rfl (Nat.le_of_ble_eq_true rfl) dX4_read_113 ⟨Nat.le_refl _, Nat.le_refl _⟩ (fun u118 H locs hw116 hP hD hS => ?_)
                      obtain ⟨f119, a120, g121⟩ := u118
                      have hP : va_P D vwCl (xX K r f119 a120 g121 tx) H := hP
                      have hD : va_D A (xX K r f119 a120 g121 tx) := hD
                      have hI : xI f119 a120 := hw116.1
                      have hG : gOK K g121.2 tt := hw116.2.1
                      have eE122 : xEk [12, 13, 14, 32, 38, 44, 49, 50, 832, 838, 844, 849, 850, 1603, 1604, 1605, 1606, 1632] f105 a106 g107 f119 a120 g121 := hw116.2.2.1
                      have hE : xEk [12, 13, 14, 32, 38, 44, 49, 50, 832, 838, 844, 849, 850] f a g f119 a120 g121 := xEk_tr hE (xEk_w (by decide) eE122)
                      have hk0 : xQ f119 a120 N false T pl := xQ_c hk0 (eE122.1 1603 rfl) (eE122.1 1606 rfl) hw116.2.2.2
                      refine lv_aload_n hx hb dX4_read_116 rfl (lv_at hl 1 rfl) ?_
                      refine kIG.callW (As := []) (rest := []) ⟨hx, hb, hml, hown, hg⟩ (y_inHand l r f119 a120 g121 tx tt hT hI hG   N (ik109) false T pl hk0 (by rw [((eE122.1 1604 rfl).trans egv110.symm)]; exact hg111) hNk109) (cwV 0 hg (kgV wt3_238 wt4_0 wp1_12 wt1_7 wt4_1) rfl rfl rfl (by decide +kernel) ⟨by decide, by decide⟩) hV hK hP hD hS hA (50) 4 rfl rfl rfl hl.1 rfl (Nat.le_of_ble_eq_true rfl) dX4_read_117 ⟨Nat.le_refl _, Nat.le_refl _⟩ (fun v124 u125 H locs hw123 hP hD hS => ?_)
                      have hP : va_P D vwCl (xX K r f119 a120 g121 tx) H := hP
                      have hD : va_D A (xX K r f119 a120 g121 tx) := hD
                      have b126 : kb 0 v124 4000 := kb_eq hw123.2 (hk0.2.2.2.2.2.2 (ik109))
                      refine lv_sipush (v := 4000) hx hb dX4_read_120 (by decide) ?_
                      refine lv_icmp_ne (tgt := 128) hx hb dX4_read_123 (by decide) (fun c127 => ?_) (fun c127 => ?_)
                      · have b128 : kb 0 v124 3999 := kr_neh c127 b126 kc_4000 (by decide)
                        refine lv_aload_n hx hb dX4_read_128 rfl (lv_at hl 1 rfl) ?_
                        refine kIG.callW (As := []) (rest := []) ⟨hx, hb, hml, hown, hg⟩ (y_inHand l r f119 a120 g121 tx tt hT hI hG   N (ik109) false T pl hk0 (by rw [((eE122.1 1604 rfl).trans egv110.symm)]; exact hg111) hNk109) (cwV 0 hg (kgV wt3_238 wt4_0 wp1_12 wt1_7 wt4_1) rfl rfl rfl (by decide +kernel) ⟨by decide, by decide⟩) hV hK hP hD hS hA (50) 4 rfl rfl rfl hl.1 rfl (Nat.le_of_ble_eq_true rfl) dX4_read_129 ⟨Nat.le_refl _, Nat.le_refl _⟩ (fun v130 u131 H locs hw129 hP hD hS => ?_)
                        have hP : va_P D vwCl (xX K r f119 a120 g121 tx) H := hP
                        have hD : va_D A (xX K r f119 a120 g121 tx) := hD
                        have b132 : kb 0 v130 4000 := kb_eq hw129.2 (hk0.2.2.2.2.2.2 (ik109))
                        refine lv_sipush (v := 3059) hx hb dX4_read_132 (by decide) ?_
                        refine lv_icmp_eq (tgt := 143) hx hb dX4_read_135 (by decide) (fun c133 => ?_) (fun c133 => ?_)
                        · have b134 : kb 3059 v130 3059 := kb_eq c133 kc_3059
                          refine lv_aload_n hx hb dX4_read_143 rfl (lv_at hl 1 rfl) ?_
                          refine lv_dup hx hb dX4_read_144 rfl ?_
                          have hlt135 : ik109 < N := xQ_lt hk0 (ne_4000 (hw129.2.symm.trans c133) (by decide +kernel))
                          have b136 : kb 0 gv110 399 := kb_pos1 hlt135 hN4 hg111
                          refine va_get (D := D) (ci := 4) (v := .int (f119 1604)) (C := RX4) (T := TX4) (N := 7) hx hb hg inC4 hown hK hP 50 rfl rfl 4 (by decide) (hg _ wt2_69) (fun _ h9 => h9) rfl dX4_read_145 ?_
                          refine k_top (z := gv110) ((eE122.1 1604 rfl).trans egv110.symm) ?_
                          refine lv_iconst (v := 1) hx hb dX4_read_148 (by decide) ?_
                          refine lv_iadd hx hb dX4_read_149 ?_
                          refine lv_topi (fun t137 et137 => ?_)
                          have b138 : kb 1 t137 400 := kb_eq et137 (kb_add b136 kc_1 (by decide) (by decide))
                          have qt137 : t137.toInt = gv110.toInt + 1 := by rw [et137]; exact kt_addc b136 kc_1 (by decide) (by decide)
                          have hg139 : t137.toInt = ((ik109 + 1 : Nat) : Int) := by rw [qt137, hg111]; omega
                          refine va_put (D := D) (ci := 4) (v := .int t137) (ty := .int) (C := RX4) (T := TX4) (N := 7) hx hb hg inC4 tyX4 tyX4_ok nmX4 hown hK hP hD hS 50 rfl rfl 4 (by decide) (hg _ wt2_69) (fun _ h9 => h9) rfl (by decide +kernel) rfl rfl (Nat.le_of_ble_eq_true rfl) dX4_read_150 (fun H locs hP hD hS => ?_)
                          have hP : va_P D vwCl (xX K r (upd f119 1604 t137) a120 g121 tx) H := hP
                          have hD : va_D A (xX K r (upd f119 1604 t137) a120 g121 tx) := hD
                          refine k_gen (P := fun z => va_P D vwCl (xX K r z a120 g121 tx) H ∧ va_D A (xX K r z a120 g121 tx) ∧ (xI z a120) ∧ (gOK K g121.2 tt) ∧ (xEk [12, 13, 14, 32, 38, 44, 49, 50, 832, 838, 844, 849, 850] f a g z a120 g121) ∧ (xQ z a120 N false T pl)) (upd f119 1604 t137) ⟨hP, hD, (xI_f hI (fI_st hI.1 1604 (kb_any _) (by decide) (by decide))), hG, (xEk_f hE (by decide)), (xQ_f hk0 (by decide) (by decide))⟩ (fun f_140 ef_140 hq => ?_)
                          obtain ⟨hP, hD, hI, hG, hE, hk0⟩ := hq
                          obtain ⟨t141, et141⟩ : ∃ z : Int32, z = y23 + Int32.ofInt 1 := ⟨_, rfl⟩
                          have qt141 : t141.toInt = y23.toInt + 1 := by rw [et141]; exact km_inc b42 (by decide) (by decide)
                          have b142 : kb 1 t141 12 := kb_inc (k := 1) qt141 b42
                          refine lv_iinc (v := t141) (lv' := [(4, .int t141), (0, .ref (r 50)), (1, .ref (r 93)), (2, .int len_), (3, .int isO)]) hx hb dX4_read_153 hl (k := 0) rfl et141.symm (by decide) rfl (fun ls hl => ?_)
                          refine lv_goto (tgt := 42) hx hb dX4_read_156 (by decide) ?_
                          exact ihlp27 (ik109 + 1) (nk109) (cn + 1) f_140 a120 g121 _ _ _ t141 (km_up hmlp27 qt141) hI hG hE hk0 (kb_w b142 (by decide) (by decide)) (by rw [(show f_140 1604 = t137 from by rw [← ef_140]; rfl)]; exact hg139) (hlt135) (⟨(by rw [((show f_140 1605 = f119 1605 from by rw [← ef_140]; rfl).trans ((eE122.1 1605 rfl).trans ez113.symm))]; exact hzz113), h3k109.2⟩) (⟨by have w1 := hvlp27_3; omega, hc12⟩) (by rw [((show f_140 1632 = f119 1632 from by rw [← ef_140]; rfl).trans ((eE122.1 1632 rfl).trans ((eE108.1 1632 rfl).trans ((show f_101 1632 = f47 1632 from by rw [← ef_101]; rfl).trans ez57.symm))))]; exact hCz57) (fun r h => xo r (c12 hc12 (pT_s (hGk51 _ (pi_12y (hw59.2.symm.trans c63) hGk109)) (Or.inl ⟨(hw129.2.symm.trans c133), h⟩)))) hP hD hS (lv_sub hl [0, 1, 2, 3, 4] rfl)
                        · refine lv_aload_n hx hb dX4_read_138 rfl (lv_at hl 1 rfl) ?_
                          refine kIG.callW (As := []) (rest := []) ⟨hx, hb, hml, hown, hg⟩ (y_placeInHand l r f119 a120 g121 tx tt hT hI hG   N (ik109) false T pl hk0 (by rw [((eE122.1 1604 rfl).trans egv110.symm)]; exact hg111) hNk109) (cwV 0 hg (kgV wt4_46 wt4_48 wp2_4 wt1_7 wt4_49) rfl rfl rfl (by decide +kernel) ⟨by decide, by decide⟩) hV hK hP hD hS hA (50) 4 rfl rfl rfl hl.1 rfl (Nat.le_of_ble_eq_true rfl) dX4_read_139 ⟨Nat.le_refl _, Nat.le_refl _⟩ (fun v144 u145 H locs hw143 hP hD hS => ?_)
                          have hP : va_P D vwCl (xX K r f119 a120 g121 tx) H := hP
                          have hD : va_D A (xX K r f119 a120 g121 tx) := hD
                          exact kI_ret (v := v144) hx hb hr hlocks rfl hK hS dX4_read_142 (f119, a120, g121) hP hD ⟨(kb_any v144), hI, hG, hE, ⟨false, N, ik109, hsp.1, hsp.2.1, (by rw [← hTd]; exact xo _ (c12 hc12 (pT_s (hGk51 _ (pi_12y (hw59.2.symm.trans c63) hGk109)) (Or.inr (Or.inl ⟨(fun q => c133 (hw129.2.trans q)), xQ_lt hk0 (fun q => c127 (hw123.2.trans q)), rfl⟩))))), (hw143.2.trans (congrFun hpd _))⟩⟩
                      · have b146 : kb 4000 v124 4000 := kb_eq c127 kc_4000
                        refine lv_iconst (v := (-1)) hx hb dX4_read_126 (by decide) ?_
                        exact kI_ret (v := (-1)) hx hb hr hlocks rfl hK hS dX4_read_127 (f119, a120, g121) hP hD ⟨(kb_w kc_m1 (by decide) (by decide)), hI, hG, hE, ⟨true, N, ik109, hsp.1, hsp.2.1, (by rw [← hTd]; exact xo _ (c12 hc12 (pT_s (hGk51 _ (pi_12y (hw59.2.symm.trans c63) hGk109)) (Or.inr (Or.inr ⟨(fun q => absurd ((hw123.2.symm.trans c127).symm.trans q) (by decide +kernel)), tk_end hsp.2.1 (by rw [← hTd]; exact (hw123.2.symm.trans c127)), rfl⟩))))), rfl⟩⟩
                    · exact kb_dj c115 kc_1 kc_0 (by decide)
                  · refine k_top (z := 0) hvk109 ?_
                    obtain ⟨gv147, egv147⟩ : ∃ z : Int32, z = f105 1604 := ⟨_, rfl⟩
                    have hg148 : gv147.toInt = ((ik109 : Nat) : Int) := by rw [egv147]; exact hgk109
                    have b149 : kb 0 gv147 400 := kb_pos hNk109 hN4 hg148
                    refine lv_if_ne (tgt := 108) hx hb dX4_read_100 (by decide) (fun c150 => ?_) (fun c150 => ?_)
                    · exact kb_nsame c150 kc_0 kc_0
                    · refine lv_aload_n hx hb dX4_read_103 rfl (lv_at hl 1 rfl) ?_
                      refine kIG.callW (As := []) (rest := []) ⟨hx, hb, hml, hown, hg⟩ (y_placeInHand l r f105 a106 g107 tx tt hT hI hG   N (ik109) false T pl hk0 (by rw [egv147.symm]; exact hg148) hNk109) (cwV 0 hg (kgV wt4_46 wt4_48 wp2_4 wt1_7 wt4_49) rfl rfl rfl (by decide +kernel) ⟨by decide, by decide⟩) hV hK hP hD hS hA (50) 4 rfl rfl rfl hl.1 rfl (Nat.le_of_ble_eq_true rfl) dX4_read_104 ⟨Nat.le_refl _, Nat.le_refl _⟩ (fun v152 u153 H locs hw151 hP hD hS => ?_)
                      have hP : va_P D vwCl (xX K r f105 a106 g107 tx) H := hP
                      have hD : va_D A (xX K r f105 a106 g107 tx) := hD
                      exact kI_ret (v := v152) hx hb hr hlocks rfl hK hS dX4_read_107 (f105, a106, g107) hP hD ⟨(kb_any v152), hI, hG, hE, ⟨false, N, ik109, hsp.1, hsp.2.1, (by rw [← hTd]; exact xo _ (c12 hc12 (pT_f (hGk51 _ (pi_12y (hw59.2.symm.trans c63) hGk109))))), (hw151.2.trans (congrFun hpd _))⟩⟩
              · exact kb_dj c58 kc_1 kc_0 (by decide)
            · refine k_top (z := 0) hvk51 ?_
              obtain ⟨gv154, egv154⟩ : ∃ z : Int32, z = f47 1604 := ⟨_, rfl⟩
              have hg155 : gv154.toInt = ((ik51 : Nat) : Int) := by rw [egv154]; exact hgk51
              have b156 : kb 0 gv154 400 := kb_pos hNk51 hN4 hg155
              refine lv_if_ne (tgt := 75) hx hb dX4_read_67 (by decide) (fun c157 => ?_) (fun c157 => ?_)
              · exact kb_nsame c157 kc_0 kc_0
              · refine lv_aload_n hx hb dX4_read_70 rfl (lv_at hl 1 rfl) ?_
                refine kIG.callW (As := []) (rest := []) ⟨hx, hb, hml, hown, hg⟩ (y_placeInHand l r f47 a48 g49 tx tt hT hI hG   N (ik51) false T pl hk0 (by rw [egv154.symm]; exact hg155) hNk51) (cwV 0 hg (kgV wt4_46 wt4_48 wp2_4 wt1_7 wt4_49) rfl rfl rfl (by decide +kernel) ⟨by decide, by decide⟩) hV hK hP hD hS hA (50) 4 rfl rfl rfl hl.1 rfl (Nat.le_of_ble_eq_true rfl) dX4_read_71 ⟨Nat.le_refl _, Nat.le_refl _⟩ (fun v159 u160 H locs hw158 hP hD hS => ?_)
                have hP : va_P D vwCl (xX K r f47 a48 g49 tx) H := hP
                have hD : va_D A (xX K r f47 a48 g49 tx) := hD
                exact kI_ret (v := v159) hx hb hr hlocks rfl hK hS dX4_read_74 (f47, a48, g49) hP hD ⟨(kb_any v159), hI, hG, hE, ⟨false, N, ik51, hsp.1, hsp.2.1, (by rw [← hTd]; exact xo _ (c12 hc12 (pT_f hGk51))), (hw158.2.trans (congrFun hpd _))⟩⟩
          · exact kb_nsame c43 b1 kc_0
    exact lp27 (13) (0) (0) 0 f_22 a17 g18 _ _ _ 0 (by have h1 := (kc_0); unfold kb at h1; omega) hI hG hE hk0 (kb_w kc_0 (by decide) (by decide)) (by rw [((show f_22 1604 = f_21 1604 from by rw [← ef_22]; rfl).trans ((show f_21 1604 = f_20 1604 from by rw [← ef_21]; rfl).trans (show f_20 1604 = 0 from by rw [← ef_20]; rfl)))]; exact (by decide +kernel)) ((Nat.zero_le N)) (⟨(by rw [((show f_22 1605 = f_21 1605 from by rw [← ef_22]; rfl).trans (show f_21 1605 = 0 from by rw [← ef_21]; rfl))]; exact (by decide +kernel)), (by decide)⟩) (⟨by decide +kernel, by decide⟩) (by rw [((show f_22 1632 = f_21 1632 from by rw [← ef_22]; rfl).trans ((show f_21 1632 = f_20 1632 from by rw [← ef_21]; rfl).trans ((show f_20 1632 = f16 1632 from by rw [← ef_20]; rfl).trans hw13.2.2.2.2)))]; decide +kernel) (fun r h => h) hP hD hS (lv_sub hl [0, 1, 2, 3, 4] rfl)
  · have hisO : isO = (if true = true then 1 else 0) := hp1
    have hiz : isO = 1 := hisO.trans (if_pos rfl)
    have b161 : kb 1 isO 1 := (by rw [hiz]; exact ⟨by decide +kernel, by decide +kernel⟩)
    refine lv_aload_n hx hb dX4_read_0 rfl (lv_at hl 0 rfl) ?_
    refine lv_aload_n hx hb dX4_read_1 rfl (lv_at hl 1 rfl) ?_
    refine lv_iload_n hx hb dX4_read_2 rfl (lv_at hl 2 rfl) ?_
    refine lv_aload_n hx hb dX4_read_3 rfl (lv_at hl 1 rfl) ?_
    refine va_alen (v := 400) hx hb hK hP 93 1 rfl rfl rfl dX4_read_4 ?_
    refine lv_sipush (v := 400) hx hb dX4_read_5 (by decide) ?_
    refine va_mmin hx hb (hml.trans hl.1.symm) hown (hg _ wt3_157) (hg _ wt3_52) (hg _ wt1_9) (hg _ wt3_53) (by decide) (Nat.le_of_ble_eq_true rfl) (by decide) (by decide) dX4_read_8 ?_
    refine lv_topi (fun t162 et162 => ?_)
    have b163 : kb 400 t162 400 := kb_eq et162 (kb_mn kc_400 kc_400 (by decide) (by decide) (by decide) (by decide))
    refine va_mmin hx hb (hml.trans hl.1.symm) hown (hg _ wt3_157) (hg _ wt3_52) (hg _ wt1_9) (hg _ wt3_53) (by decide) (Nat.le_of_ble_eq_true rfl) (by decide) (by decide) dX4_read_11 ?_
    refine lv_topi (fun t164 et164 => ?_)
    have b165 : kb 0 t164 400 := kb_eq et164 (kb_mn blen_ b163 (by decide) (by decide) (by decide) (by decide))
    refine kVG.callW (As := [.ref (r 93), .int t164]) (rest := []) ⟨hx, hb, hml, hown, hg⟩ (y_split l r f a g tx tt hT hI hG t164 b165 S (by rw [et164]; exact min_S hp0 (by have w1 := (b163).1; have w2 := blen_.2; omega))) (cwV 2 hg (kgV wt3_158 wt3_160 wp1_9 wt1_7 wt3_161) rfl rfl rfl (by decide +kernel) ⟨by decide, by decide⟩) hV hK hP hD hS hA (50) 4 rfl rfl rfl hl.1 rfl (Nat.le_of_ble_eq_true rfl) dX4_read_14 ⟨Nat.le_refl _, Nat.le_refl _⟩ (fun u168 H locs hw166 hP hD hS => ?_)
    obtain ⟨f169, a170, g171⟩ := u168
    have hP : va_P D vwCl (xX K r f169 a170 g171 tx) H := hP
    have hD : va_D A (xX K r f169 a170 g171 tx) := hD
    have hI : xI f169 a170 := hw166.1
    have hG : gOK K g171.2 tt := hw166.2.1
    have eE172 : xEk [12, 13, 14, 32, 38, 44, 49, 50, 832, 838, 844, 849, 850] f a g f169 a170 g171 := hw166.2.2.1
    have hE : xEk [12, 13, 14, 32, 38, 44, 49, 50, 832, 838, 844, 849, 850] f a g f169 a170 g171 := xEk_tr hE eE172
    obtain ⟨N, hN1, hN2, hsp⟩ := hw166.2.2.2
    obtain ⟨cS, ecS⟩ : ∃ z : Int32, z = f169 1603 := ⟨_, rfl⟩
    have hcS : cS.toInt = (N : Int) + 1 := by rw [ecS]; exact hN1
    refine lv_aload_n hx hb dX4_read_17 rfl (lv_at hl 0 rfl) ?_
    refine va_get (D := D) (ci := 4) (v := .ref (r 51)) (C := RX4) (T := TX4) (N := 7) hx hb hg inC4 hown hK hP 50 rfl rfl 0 (by decide) (hg _ wt2_64) (fun _ h9 => h9) rfl dX4_read_18 ?_
    refine kVG.callW (As := []) (rest := []) ⟨hx, hb, hml, hown, hg⟩ (y_clear l r f169 a170 g171 tx tt hT hI hG   ) (cwV 0 hg (kgV wt3_227 wt3_228 wt3_229 wt1_8 wt3_230) rfl rfl rfl (by decide +kernel) ⟨by decide, by decide⟩) hV hK hP hD hS hA (51) 10 rfl rfl rfl hl.1 rfl (Nat.le_of_ble_eq_true rfl) dX4_read_21 ⟨Nat.le_refl _, Nat.le_refl _⟩ (fun u175 H locs hw173 hP hD hS => ?_)
    obtain ⟨f176, a177, g178⟩ := u175
    have hP : va_P D vwCl (xX K r f176 a177 g178 tx) H := hP
    have hD : va_D A (xX K r f176 a177 g178 tx) := hD
    have hI : xI f176 a177 := hw173.1
    have hG : gOK K g178.2 tt := hw173.2.1
    have eE179 : xEk [12, 13, 14, 32, 38, 44, 49, 50, 832, 838, 844, 849, 850, 1603, 1604, 1605, 1606] f169 a170 g171 f176 a177 g178 := hw173.2.2.1
    have hE : xEk [12, 13, 14, 32, 38, 44, 49, 50, 832, 838, 844, 849, 850] f a g f176 a177 g178 := xEk_tr hE (xEk_w (by decide) eE179)
    refine lv_aload_n hx hb dX4_read_24 rfl (lv_at hl 0 rfl) ?_
    refine lv_iconst (v := 0) hx hb dX4_read_25 (by decide) ?_
    refine va_put (D := D) (ci := 4) (v := .int 0) (ty := .int) (C := RX4) (T := TX4) (N := 7) hx hb hg inC4 tyX4 tyX4_ok nmX4 hown hK hP hD hS 50 rfl rfl 4 (by decide) (hg _ wt2_69) (fun _ h9 => h9) rfl (by decide +kernel) rfl rfl (Nat.le_of_ble_eq_true rfl) dX4_read_26 (fun H locs hP hD hS => ?_)
    have hP : va_P D vwCl (xX K r (upd f176 1604 0) a177 g178 tx) H := hP
    have hD : va_D A (xX K r (upd f176 1604 0) a177 g178 tx) := hD
    refine k_gen (P := fun z => va_P D vwCl (xX K r z a177 g178 tx) H ∧ va_D A (xX K r z a177 g178 tx) ∧ (xI z a177) ∧ (gOK K g178.2 tt) ∧ (xEk [12, 13, 14, 32, 38, 44, 49, 50, 832, 838, 844, 849, 850] f a g z a177 g178)) (upd f176 1604 0) ⟨hP, hD, (xI_f hI (fI_st hI.1 1604 (kb_any _) (by decide) (by decide))), hG, (xEk_f hE (by decide))⟩ (fun f_180 ef_180 hq => ?_)
    obtain ⟨hP, hD, hI, hG, hE⟩ := hq
    refine lv_aload_n hx hb dX4_read_29 rfl (lv_at hl 0 rfl) ?_
    refine lv_iconst (v := 0) hx hb dX4_read_30 (by decide) ?_
    refine va_put (D := D) (ci := 4) (v := .int 0) (ty := .int) (C := RX4) (T := TX4) (N := 7) hx hb hg inC4 tyX4 tyX4_ok nmX4 hown hK hP hD hS 50 rfl rfl 5 (by decide) (hg _ wt2_70) (fun _ h9 => h9) rfl (by decide +kernel) rfl rfl (Nat.le_of_ble_eq_true rfl) dX4_read_31 (fun H locs hP hD hS => ?_)
    have hP : va_P D vwCl (xX K r (upd f_180 1605 0) a177 g178 tx) H := hP
    have hD : va_D A (xX K r (upd f_180 1605 0) a177 g178 tx) := hD
    refine k_gen (P := fun z => va_P D vwCl (xX K r z a177 g178 tx) H ∧ va_D A (xX K r z a177 g178 tx) ∧ (xI z a177) ∧ (gOK K g178.2 tt) ∧ (xEk [12, 13, 14, 32, 38, 44, 49, 50, 832, 838, 844, 849, 850] f a g z a177 g178)) (upd f_180 1605 0) ⟨hP, hD, (xI_f hI (fI_st hI.1 1605 (kb_any _) (by decide) (by decide))), hG, (xEk_f hE (by decide))⟩ (fun f_181 ef_181 hq => ?_)
    obtain ⟨hP, hD, hI, hG, hE⟩ := hq
    refine lv_aload_n hx hb dX4_read_34 rfl (lv_at hl 0 rfl) ?_
    refine lv_iload_n hx hb dX4_read_35 rfl (lv_at hl 3 rfl) ?_
    refine va_put (D := D) (ci := 4) (v := .int isO) (ty := .boolean) (C := RX4) (T := TX4) (N := 7) hx hb hg inC4 tyX4 tyX4_ok nmX4 hown hK hP hD hS 50 rfl rfl 6 (by decide) (hg _ wt2_71) (fun _ h9 => h9) rfl (by decide +kernel) (kb_bo (kb_w b161 (by decide) (by decide))) (kb_fit (kb_w b161 (by decide) (by decide))) (Nat.le_of_ble_eq_true rfl) dX4_read_36 (fun H locs hP hD hS => ?_)
    have hP : va_P D vwCl (xX K r (upd f_181 1606 isO) a177 g178 tx) H := hP
    have hD : va_D A (xX K r (upd f_181 1606 isO) a177 g178 tx) := hD
    refine k_gen (P := fun z => va_P D vwCl (xX K r z a177 g178 tx) H ∧ va_D A (xX K r z a177 g178 tx) ∧ (xI z a177) ∧ (gOK K g178.2 tt) ∧ (xEk [12, 13, 14, 32, 38, 44, 49, 50, 832, 838, 844, 849, 850] f a g z a177 g178)) (upd f_181 1606 isO) ⟨hP, hD, (xI_f hI (fI_st hI.1 1606 (kb_any _) (by decide) (by decide))), hG, (xEk_f hE (by decide))⟩ (fun f_182 ef_182 hq => ?_)
    obtain ⟨hP, hD, hI, hG, hE⟩ := hq
    obtain ⟨T, hTd⟩ : ∃ T : Nat → Int32, T = tkT (a 93) S := ⟨_, rfl⟩
    obtain ⟨pl, hpd⟩ : ∃ pl : Nat → Int32, pl = pcT (a 93) S := ⟨_, rfl⟩
    have h56 : a177 56 = a170 56 ∧ a177 57 = a170 57 := hw173.2.2.2.1
    have hN4 := hN2
    have hk0 : xQ f_182 a177 N true T pl := ⟨by rw [((show f_182 1603 = f_181 1603 from by rw [← ef_182]; rfl).trans ((show f_181 1603 = f_180 1603 from by rw [← ef_181]; rfl).trans ((show f_180 1603 = f176 1603 from by rw [← ef_180]; rfl).trans ((eE179.1 1603 rfl).trans ecS.symm))))]; exact hcS, hN2, ((show f_182 1606 = isO from by rw [← ef_182]; rfl)).trans hisO, fun k hk => by rw [h56.1, hTd]; exact hsp.2.2.1 k hk, fun k hk => by rw [h56.2, hpd]; exact hsp.2.2.2 k hk, fun k hk => by rw [hTd]; exact tkT_e hsp.1 hk, fun k => by rw [hTd]; exact tkT_b k⟩
    refine lv_iconst (v := 0) hx hb dX4_read_39 (by decide) ?_
    refine lv_istore (lv' := [(4, .int 0), (0, .ref (r 50)), (1, .ref (r 93)), (2, .int len_), (3, .int isO)]) hx hb dX4_read_40 hl (by decide) rfl (fun ls hl => ?_)
    have lp187 : ∀ (n188 : Nat) (i0 : Nat) (n0 : Nat) (cn : Nat) (F184 : Nat → Int32) (B185 : Nat → Nat → Int32) (G186 : xG) (H : Heap) (locs : List Loc) (ls : Array Slot) (y183 : Int32), (12 < y183.toInt + (n188 : Int)) → (xI F184 B185) → (gOK K G186.2 tt) → (xEk [12, 13, 14, 32, 38, 44, 49, 50, 832, 838, 844, 849, 850] f a g F184 B185 G186) → (xQ F184 B185 N true T pl) → (kb 0 y183 12) → ((F184 1604).toInt = (i0 : Int)) → (i0 ≤ N) → ((F184 1605).toInt = (n0 : Int) ∧ n0 ≤ 50) → (y183.toInt = (cn : Int) ∧ cn ≤ 12) → ((F184 1632).toInt = (cn : Int)) → (∀ r, pT true T N (12 - cn) i0 n0 r → pT true T N 12 0 0 r) → va_P D vwCl (xX K r F184 B185 G186 tx) H → va_D A (xX K r F184 B185 G186 tx) → va_S A s.heap H locs → lv_has ls 5 [(4, .int y183), (0, .ref (r 50)), (1, .ref (r 93)), (2, .int len_), (3, .int isO)] → W p l e (rmD 28 0 0) s m ([.ref (r 50), .ref (r 93), .int len_, .int isO] : List Value).toArray below meth c H locs 0 0 (kQi D (tysK K) (fun v (u : xS) => kb (-2147483648) v 2147483647 ∧ xI u.1 u.2.1 ∧ gOK K u.2.2.2 tt ∧ xEk [12, 13, 14, 32, 38, 44, 49, 50, 832, 838, 844, 849, 850] f a g u.1 u.2.1 u.2.2 ∧ (∃ b : Bool, txR true (a 93) S b v)) (fun u => xX K r u.1 u.2.1 u.2.2 tx) A below ([.ref (r 50), .ref (r 93), .int len_, .int isO] : List Value).toArray s 0 0) (F0 m 42 ls []) := by
      intro n188
      induction n188 with
      | zero =>
        intro i0 n0 cn F184 B185 G186  H locs ls y183 hmlp187 hI hG hE hk0 b189 hvlp187_0 hvlp187_1 hvlp187_2 hvlp187_3 hvlp187_4 hvlp187_5 hP hD hS hl
        exact (by have h1 := b189.2; have h2 := hmlp187; omega : False).elim
      | succ n188 ihlp187 =>
        intro i0 n0 cn F184 B185 G186  H locs ls y183 hmlp187 hI hG hE hk0 b189 hvlp187_0 hvlp187_1 hvlp187_2 hvlp187_3 hvlp187_4 hvlp187_5 hP hD hS hl
        obtain ⟨gv190, egv190⟩ : ∃ z : Int32, z = F184 1604 := ⟨_, rfl⟩
        have hg191 : gv190.toInt = ((i0 : Nat) : Int) := by rw [egv190]; exact hvlp187_0
        have b192 : kb 0 gv190 400 := kb_pos hvlp187_1 hN4 hg191
        obtain ⟨z193, ez193⟩ : ∃ z : Int32, z = F184 1605 := ⟨_, rfl⟩
        have hzz193 : z193.toInt = ((n0 : Nat) : Int) := by rw [ez193]; exact hvlp187_2.1
        have b194 : kb 0 z193 50 := ⟨by omega, by have w1 := hvlp187_2.2; omega⟩
        obtain ⟨cC, ecC⟩ : ∃ z : Int32, z = F184 1632 := ⟨_, rfl⟩
        have hcC : cC.toInt = (cn : Int) := by rw [ecC]; exact hvlp187_4
        have xo := hvlp187_5
        refine lv_iload hx hb dX4_read_42 (lv_at hl 0 rfl) ?_
        refine lv_bipush (v := 12) hx hb dX4_read_44 (by decide) ?_
        refine lv_icmp_ge (tgt := 159) hx hb dX4_read_46 (by decide) (fun c195 => ?_) (fun c195 => ?_)
        · have h196 := (kc_le c195)
          have b197 : kb 12 y183 12 := kr_le2 h196 kc_12 b189
          refine lv_aload_n hx hb dX4_read_159 rfl (lv_at hl 1 rfl) ?_
          refine kIG.callW (As := []) (rest := []) ⟨hx, hb, hml, hown, hg⟩ (y_placeInHand l r F184 B185 G186 tx tt hT hI hG   N (i0) true T pl hk0 (by rw [egv190.symm]; exact hg191) hvlp187_1) (cwV 0 hg (kgV wt4_46 wt4_48 wp2_4 wt1_7 wt4_49) rfl rfl rfl (by decide +kernel) ⟨by decide, by decide⟩) hV hK hP hD hS hA (50) 4 rfl rfl rfl hl.1 rfl (Nat.le_of_ble_eq_true rfl) dX4_read_160 ⟨Nat.le_refl _, Nat.le_refl _⟩ (fun v199 u200 H locs hw198 hP hD hS => ?_)
          have hP : va_P D vwCl (xX K r F184 B185 G186 tx) H := hP
          have hD : va_D A (xX K r F184 B185 G186 tx) := hD
          exact kI_ret (v := v199) hx hb hr hlocks rfl hK hS dX4_read_163 (F184, B185, G186) hP hD ⟨(kb_any v199), hI, hG, hE, ⟨false, N, i0, hsp.1, hsp.2.1, (by rw [← hTd]; exact xo _ (by rw [show 12 - cn = 0 by have w1 := hvlp187_3; have w3 : (12 : Int32).toInt = 12 := (by decide +kernel); first | (have w2 := kc_le c195; omega) | (have w2 := kc_nlt c195; omega)]; exact rfl)), (hw198.2.trans (congrFun hpd _))⟩⟩
        · have h201 := (kc_nle c195)
          have b202 : kb 0 y183 11 := kr_lt1 h201 b189 kc_12 (by decide)
          have hc12 : cn < 12 := by have w1 := hvlp187_3; have w3 : (12 : Int32).toInt = 12 := (by decide +kernel); first | (have w2 := kc_nle c195; omega) | (have w2 := kc_lt c195; omega)
          refine lv_iload_n hx hb dX4_read_49 rfl (lv_at hl 4 rfl) ?_
          refine lv_if_eq (tgt := 63) hx hb dX4_read_50 (by decide) (fun c203 => ?_) (fun c203 => ?_)
          · exact kb_dj c203 b161 kc_0 (by decide)
          · refine lv_aload_n hx hb dX4_read_53 rfl (lv_at hl 1 rfl) ?_
            refine kIG.callW (As := []) (rest := []) ⟨hx, hb, hml, hown, hg⟩ (y_readOrder l r F184 B185 G186 tx tt hT hI hG   N (i0) (n0) cn true T pl hk0 (by rw [egv190.symm]; exact hg191) hvlp187_1 ⟨(by rw [ez193.symm]; exact hzz193), hvlp187_2.2⟩ (by rw [ecC.symm]; exact hcC) (hc12)) (cwV 0 hg (kgV wt3_234 wt3_236 wp1_11 wt1_7 wt3_237) rfl rfl rfl (by decide +kernel) ⟨by decide, by decide⟩) hV hK hP hD hS hA (50) 4 rfl rfl rfl hl.1 rfl (Nat.le_of_ble_eq_true rfl) dX4_read_54 ⟨Nat.le_refl _, Nat.le_refl _⟩ (fun v205 u206 H locs hw204 hP hD hS => ?_)
            obtain ⟨f207, a208, g209⟩ := u206
            have hP : va_P D vwCl (xX K r f207 a208 g209 tx) H := hP
            have hD : va_D A (xX K r f207 a208 g209 tx) := hD
            have hI : xI f207 a208 := hw204.2.1
            have hG : gOK K g209.2 tt := hw204.2.2.1
            have eE210 : xEk [12, 13, 14, 32, 38, 44, 49, 50, 832, 838, 844, 849, 850, 1603, 1606] F184 B185 G186 f207 a208 g209 := hw204.2.2.2.1
            have hE : xEk [12, 13, 14, 32, 38, 44, 49, 50, 832, 838, 844, 849, 850] f a g f207 a208 g209 := xEk_tr hE (xEk_w (by decide) eE210)
            have hk0 : xQ f207 a208 N true T pl := hw204.2.2.2.2.1
            obtain ⟨ik211, nk211, hgk211, hlek211, hNk211, hck211⟩ := hw204.2.2.2.2.2
            rcases hck211 with ⟨hvk211, h3k211, h4k211, hGk211⟩ | ⟨hvk211, hGk211⟩
            · refine k_top (z := 1) hvk211 ?_
              obtain ⟨gv212, egv212⟩ : ∃ z : Int32, z = f207 1604 := ⟨_, rfl⟩
              have hg213 : gv212.toInt = ((ik211 : Nat) : Int) := by rw [egv212]; exact hgk211
              have b214 : kb 0 gv212 400 := kb_pos hNk211 hN4 hg213
              obtain ⟨z215, ez215⟩ : ∃ z : Int32, z = f207 1605 := ⟨_, rfl⟩
              have hzz215 : z215.toInt = ((nk211 : Nat) : Int) := by rw [ez215]; exact h3k211.1
              have b216 : kb 0 z215 50 := ⟨by omega, by have w1 := h3k211.2; omega⟩
              obtain ⟨z217, ez217⟩ : ∃ z : Int32, z = f207 1632 := ⟨_, rfl⟩
              have hCz217 : z217.toInt = ((cn + 1 : Nat) : Int) := by rw [ez217]; exact h4k211
              refine lv_if_eq (tgt := 70) hx hb dX4_read_57 (by decide) (fun c218 => ?_) (fun c218 => ?_)
              · exact kb_dj c218 kc_1 kc_0 (by decide)
              · refine lv_goto (tgt := 75) hx hb dX4_read_60 (by decide) ?_
                refine lv_aload_n hx hb dX4_read_75 rfl (lv_at hl 1 rfl) ?_
                refine kIG.callW (As := []) (rest := []) ⟨hx, hb, hml, hown, hg⟩ (y_inHand l r f207 a208 g209 tx tt hT hI hG   N (ik211) true T pl hk0 (by rw [egv212.symm]; exact hg213) hNk211) (cwV 0 hg (kgV wt3_238 wt4_0 wp1_12 wt1_7 wt4_1) rfl rfl rfl (by decide +kernel) ⟨by decide, by decide⟩) hV hK hP hD hS hA (50) 4 rfl rfl rfl hl.1 rfl (Nat.le_of_ble_eq_true rfl) dX4_read_76 ⟨Nat.le_refl _, Nat.le_refl _⟩ (fun v220 u221 H locs hw219 hP hD hS => ?_)
                have hP : va_P D vwCl (xX K r f207 a208 g209 tx) H := hP
                have hD : va_D A (xX K r f207 a208 g209 tx) := hD
                have b222 : kb 0 v220 4000 := kb_eq hw219.2 (hk0.2.2.2.2.2.2 (ik211))
                refine lv_sipush (v := 2003) hx hb dX4_read_79 (by decide) ?_
                refine lv_icmp_ne (tgt := 108) hx hb dX4_read_82 (by decide) (fun c223 => ?_) (fun c223 => ?_)
                · refine lv_aload_n hx hb dX4_read_108 rfl (lv_at hl 1 rfl) ?_
                  refine va_get (D := D) (ci := 4) (v := .ref (r 51)) (C := RX4) (T := TX4) (N := 7) hx hb hg inC4 hown hK hP 50 rfl rfl 0 (by decide) (hg _ wt2_64) (fun _ h9 => h9) rfl dX4_read_109 ?_
                  refine lv_iconst (v := 2) hx hb dX4_read_112 (by decide) ?_
                  refine kVG.callW (As := [.int 2]) (rest := []) ⟨hx, hb, hml, hown, hg⟩ (y_close l r f207 a208 g209 tx tt hT hI hG 2 (kb_w kc_2 (by decide) (by decide)) ) (cwV 1 hg (kgV wt4_30 wt4_31 wt4_32 wt1_8 wt4_33) rfl rfl rfl (by decide +kernel) ⟨by decide, by decide⟩) hV hK hP hD hS hA (51) 10 rfl rfl rfl hl.1 rfl (Nat.le_of_ble_eq_true rfl) dX4_read_113 ⟨Nat.le_refl _, Nat.le_refl _⟩ (fun u226 H locs hw224 hP hD hS => ?_)
                  obtain ⟨f227, a228, g229⟩ := u226
                  have hP : va_P D vwCl (xX K r f227 a228 g229 tx) H := hP
                  have hD : va_D A (xX K r f227 a228 g229 tx) := hD
                  have hI : xI f227 a228 := hw224.1
                  have hG : gOK K g229.2 tt := hw224.2.1
                  have eE230 : xEk [12, 13, 14, 32, 38, 44, 49, 50, 832, 838, 844, 849, 850, 1603, 1604, 1605, 1606, 1632] f207 a208 g209 f227 a228 g229 := hw224.2.2.1
                  have hE : xEk [12, 13, 14, 32, 38, 44, 49, 50, 832, 838, 844, 849, 850] f a g f227 a228 g229 := xEk_tr hE (xEk_w (by decide) eE230)
                  have hk0 : xQ f227 a228 N true T pl := xQ_c hk0 (eE230.1 1603 rfl) (eE230.1 1606 rfl) hw224.2.2.2
                  refine lv_aload_n hx hb dX4_read_116 rfl (lv_at hl 1 rfl) ?_
                  refine kIG.callW (As := []) (rest := []) ⟨hx, hb, hml, hown, hg⟩ (y_inHand l r f227 a228 g229 tx tt hT hI hG   N (ik211) true T pl hk0 (by rw [((eE230.1 1604 rfl).trans egv212.symm)]; exact hg213) hNk211) (cwV 0 hg (kgV wt3_238 wt4_0 wp1_12 wt1_7 wt4_1) rfl rfl rfl (by decide +kernel) ⟨by decide, by decide⟩) hV hK hP hD hS hA (50) 4 rfl rfl rfl hl.1 rfl (Nat.le_of_ble_eq_true rfl) dX4_read_117 ⟨Nat.le_refl _, Nat.le_refl _⟩ (fun v232 u233 H locs hw231 hP hD hS => ?_)
                  have hP : va_P D vwCl (xX K r f227 a228 g229 tx) H := hP
                  have hD : va_D A (xX K r f227 a228 g229 tx) := hD
                  have b234 : kb 0 v232 4000 := kb_eq hw231.2 (hk0.2.2.2.2.2.2 (ik211))
                  refine lv_sipush (v := 4000) hx hb dX4_read_120 (by decide) ?_
                  refine lv_icmp_ne (tgt := 128) hx hb dX4_read_123 (by decide) (fun c235 => ?_) (fun c235 => ?_)
                  · have b236 : kb 0 v232 3999 := kr_neh c235 b234 kc_4000 (by decide)
                    refine lv_aload_n hx hb dX4_read_128 rfl (lv_at hl 1 rfl) ?_
                    refine kIG.callW (As := []) (rest := []) ⟨hx, hb, hml, hown, hg⟩ (y_inHand l r f227 a228 g229 tx tt hT hI hG   N (ik211) true T pl hk0 (by rw [((eE230.1 1604 rfl).trans egv212.symm)]; exact hg213) hNk211) (cwV 0 hg (kgV wt3_238 wt4_0 wp1_12 wt1_7 wt4_1) rfl rfl rfl (by decide +kernel) ⟨by decide, by decide⟩) hV hK hP hD hS hA (50) 4 rfl rfl rfl hl.1 rfl (Nat.le_of_ble_eq_true rfl) dX4_read_129 ⟨Nat.le_refl _, Nat.le_refl _⟩ (fun v238 u239 H locs hw237 hP hD hS => ?_)
                    have hP : va_P D vwCl (xX K r f227 a228 g229 tx) H := hP
                    have hD : va_D A (xX K r f227 a228 g229 tx) := hD
                    have b240 : kb 0 v238 4000 := kb_eq hw237.2 (hk0.2.2.2.2.2.2 (ik211))
                    refine lv_sipush (v := 3059) hx hb dX4_read_132 (by decide) ?_
                    refine lv_icmp_eq (tgt := 143) hx hb dX4_read_135 (by decide) (fun c241 => ?_) (fun c241 => ?_)
                    · have b242 : kb 3059 v238 3059 := kb_eq c241 kc_3059
                      refine lv_aload_n hx hb dX4_read_143 rfl (lv_at hl 1 rfl) ?_
                      refine lv_dup hx hb dX4_read_144 rfl ?_
                      have hlt243 : ik211 < N := xQ_lt hk0 (ne_4000 (hw237.2.symm.trans c241) (by decide +kernel))
                      have b244 : kb 0 gv212 399 := kb_pos1 hlt243 hN4 hg213
                      refine va_get (D := D) (ci := 4) (v := .int (f227 1604)) (C := RX4) (T := TX4) (N := 7) hx hb hg inC4 hown hK hP 50 rfl rfl 4 (by decide) (hg _ wt2_69) (fun _ h9 => h9) rfl dX4_read_145 ?_
                      refine k_top (z := gv212) ((eE230.1 1604 rfl).trans egv212.symm) ?_
                      refine lv_iconst (v := 1) hx hb dX4_read_148 (by decide) ?_
                      refine lv_iadd hx hb dX4_read_149 ?_
                      refine lv_topi (fun t245 et245 => ?_)
                      have b246 : kb 1 t245 400 := kb_eq et245 (kb_add b244 kc_1 (by decide) (by decide))
                      have qt245 : t245.toInt = gv212.toInt + 1 := by rw [et245]; exact kt_addc b244 kc_1 (by decide) (by decide)
                      have hg247 : t245.toInt = ((ik211 + 1 : Nat) : Int) := by rw [qt245, hg213]; omega
                      refine va_put (D := D) (ci := 4) (v := .int t245) (ty := .int) (C := RX4) (T := TX4) (N := 7) hx hb hg inC4 tyX4 tyX4_ok nmX4 hown hK hP hD hS 50 rfl rfl 4 (by decide) (hg _ wt2_69) (fun _ h9 => h9) rfl (by decide +kernel) rfl rfl (Nat.le_of_ble_eq_true rfl) dX4_read_150 (fun H locs hP hD hS => ?_)
                      have hP : va_P D vwCl (xX K r (upd f227 1604 t245) a228 g229 tx) H := hP
                      have hD : va_D A (xX K r (upd f227 1604 t245) a228 g229 tx) := hD
                      refine k_gen (P := fun z => va_P D vwCl (xX K r z a228 g229 tx) H ∧ va_D A (xX K r z a228 g229 tx) ∧ (xI z a228) ∧ (gOK K g229.2 tt) ∧ (xEk [12, 13, 14, 32, 38, 44, 49, 50, 832, 838, 844, 849, 850] f a g z a228 g229) ∧ (xQ z a228 N true T pl)) (upd f227 1604 t245) ⟨hP, hD, (xI_f hI (fI_st hI.1 1604 (kb_any _) (by decide) (by decide))), hG, (xEk_f hE (by decide)), (xQ_f hk0 (by decide) (by decide))⟩ (fun f_248 ef_248 hq => ?_)
                      obtain ⟨hP, hD, hI, hG, hE, hk0⟩ := hq
                      obtain ⟨t249, et249⟩ : ∃ z : Int32, z = y183 + Int32.ofInt 1 := ⟨_, rfl⟩
                      have qt249 : t249.toInt = y183.toInt + 1 := by rw [et249]; exact km_inc b202 (by decide) (by decide)
                      have b250 : kb 1 t249 12 := kb_inc (k := 1) qt249 b202
                      refine lv_iinc (v := t249) (lv' := [(4, .int t249), (0, .ref (r 50)), (1, .ref (r 93)), (2, .int len_), (3, .int isO)]) hx hb dX4_read_153 hl (k := 0) rfl et249.symm (by decide) rfl (fun ls hl => ?_)
                      refine lv_goto (tgt := 42) hx hb dX4_read_156 (by decide) ?_
                      exact ihlp187 (ik211 + 1) (nk211) (cn + 1) f_248 a228 g229 _ _ _ t249 (km_up hmlp187 qt249) hI hG hE hk0 (kb_w b250 (by decide) (by decide)) (by rw [(show f_248 1604 = t245 from by rw [← ef_248]; rfl)]; exact hg247) (hlt243) (⟨(by rw [((show f_248 1605 = f227 1605 from by rw [← ef_248]; rfl).trans ((eE230.1 1605 rfl).trans ez215.symm))]; exact hzz215), h3k211.2⟩) (⟨by have w1 := hvlp187_3; omega, hc12⟩) (by rw [((show f_248 1632 = f227 1632 from by rw [← ef_248]; rfl).trans ((eE230.1 1632 rfl).trans ez217.symm))]; exact hCz217) (fun r h => xo r (c12 hc12 (pT_s (hGk211 _ (pi_12n (fun q => c223 (hw219.2.trans q)))) (Or.inl ⟨(hw237.2.symm.trans c241), h⟩)))) hP hD hS (lv_sub hl [0, 1, 2, 3, 4] rfl)
                    · refine lv_aload_n hx hb dX4_read_138 rfl (lv_at hl 1 rfl) ?_
                      refine kIG.callW (As := []) (rest := []) ⟨hx, hb, hml, hown, hg⟩ (y_placeInHand l r f227 a228 g229 tx tt hT hI hG   N (ik211) true T pl hk0 (by rw [((eE230.1 1604 rfl).trans egv212.symm)]; exact hg213) hNk211) (cwV 0 hg (kgV wt4_46 wt4_48 wp2_4 wt1_7 wt4_49) rfl rfl rfl (by decide +kernel) ⟨by decide, by decide⟩) hV hK hP hD hS hA (50) 4 rfl rfl rfl hl.1 rfl (Nat.le_of_ble_eq_true rfl) dX4_read_139 ⟨Nat.le_refl _, Nat.le_refl _⟩ (fun v252 u253 H locs hw251 hP hD hS => ?_)
                      have hP : va_P D vwCl (xX K r f227 a228 g229 tx) H := hP
                      have hD : va_D A (xX K r f227 a228 g229 tx) := hD
                      exact kI_ret (v := v252) hx hb hr hlocks rfl hK hS dX4_read_142 (f227, a228, g229) hP hD ⟨(kb_any v252), hI, hG, hE, ⟨false, N, ik211, hsp.1, hsp.2.1, (by rw [← hTd]; exact xo _ (c12 hc12 (pT_s (hGk211 _ (pi_12n (fun q => c223 (hw219.2.trans q)))) (Or.inr (Or.inl ⟨(fun q => c241 (hw237.2.trans q)), xQ_lt hk0 (fun q => c235 (hw231.2.trans q)), rfl⟩))))), (hw251.2.trans (congrFun hpd _))⟩⟩
                  · have b254 : kb 4000 v232 4000 := kb_eq c235 kc_4000
                    refine lv_iconst (v := (-1)) hx hb dX4_read_126 (by decide) ?_
                    exact kI_ret (v := (-1)) hx hb hr hlocks rfl hK hS dX4_read_127 (f227, a228, g229) hP hD ⟨(kb_w kc_m1 (by decide) (by decide)), hI, hG, hE, ⟨true, N, ik211, hsp.1, hsp.2.1, (by rw [← hTd]; exact xo _ (c12 hc12 (pT_s (hGk211 _ (pi_12n (fun q => c223 (hw219.2.trans q)))) (Or.inr (Or.inr ⟨(fun q => absurd ((hw231.2.symm.trans c235).symm.trans q) (by decide +kernel)), tk_end hsp.2.1 (by rw [← hTd]; exact (hw231.2.symm.trans c235)), rfl⟩))))), rfl⟩⟩
                · have b255 : kb 2003 v220 2003 := kb_eq c223 kc_2003
                  refine lv_aload_n hx hb dX4_read_85 rfl (lv_at hl 1 rfl) ?_
                  refine lv_dup hx hb dX4_read_86 rfl ?_
                  have hlt256 : ik211 < N := xQ_lt hk0 (ne_4000 (hw219.2.symm.trans c223) (by decide +kernel))
                  have b257 : kb 0 gv212 399 := kb_pos1 hlt256 hN4 hg213
                  refine va_get (D := D) (ci := 4) (v := .int (f207 1604)) (C := RX4) (T := TX4) (N := 7) hx hb hg inC4 hown hK hP 50 rfl rfl 4 (by decide) (hg _ wt2_69) (fun _ h9 => h9) rfl dX4_read_87 ?_
                  refine k_top (z := gv212) egv212.symm ?_
                  refine lv_iconst (v := 1) hx hb dX4_read_90 (by decide) ?_
                  refine lv_iadd hx hb dX4_read_91 ?_
                  refine lv_topi (fun t258 et258 => ?_)
                  have b259 : kb 1 t258 400 := kb_eq et258 (kb_add b257 kc_1 (by decide) (by decide))
                  have qt258 : t258.toInt = gv212.toInt + 1 := by rw [et258]; exact kt_addc b257 kc_1 (by decide) (by decide)
                  have hg260 : t258.toInt = ((ik211 + 1 : Nat) : Int) := by rw [qt258, hg213]; omega
                  refine va_put (D := D) (ci := 4) (v := .int t258) (ty := .int) (C := RX4) (T := TX4) (N := 7) hx hb hg inC4 tyX4 tyX4_ok nmX4 hown hK hP hD hS 50 rfl rfl 4 (by decide) (hg _ wt2_69) (fun _ h9 => h9) rfl (by decide +kernel) rfl rfl (Nat.le_of_ble_eq_true rfl) dX4_read_92 (fun H locs hP hD hS => ?_)
                  have hP : va_P D vwCl (xX K r (upd f207 1604 t258) a208 g209 tx) H := hP
                  have hD : va_D A (xX K r (upd f207 1604 t258) a208 g209 tx) := hD
                  refine k_gen (P := fun z => va_P D vwCl (xX K r z a208 g209 tx) H ∧ va_D A (xX K r z a208 g209 tx) ∧ (xI z a208) ∧ (gOK K g209.2 tt) ∧ (xEk [12, 13, 14, 32, 38, 44, 49, 50, 832, 838, 844, 849, 850] f a g z a208 g209) ∧ (xQ z a208 N true T pl)) (upd f207 1604 t258) ⟨hP, hD, (xI_f hI (fI_st hI.1 1604 (kb_any _) (by decide) (by decide))), hG, (xEk_f hE (by decide)), (xQ_f hk0 (by decide) (by decide))⟩ (fun f_261 ef_261 hq => ?_)
                  obtain ⟨hP, hD, hI, hG, hE, hk0⟩ := hq
                  refine lv_aload_n hx hb dX4_read_95 rfl (lv_at hl 1 rfl) ?_
                  refine lv_iconst (v := 0) hx hb dX4_read_96 (by decide) ?_
                  refine kIG.callW (As := [.int 0]) (rest := []) ⟨hx, hb, hml, hown, hg⟩ ((y_allTest 8) l r f_261 a208 g209 tx tt hT hI hG 0 (kb_w kc_0 (by decide) (by decide)) N (ik211 + 1) (nk211) true T pl hk0 (by rw [(show f_261 1604 = t258 from by rw [← ef_261]; rfl)]; exact hg260) hlt256 ⟨(by rw [((show f_261 1605 = f207 1605 from by rw [← ef_261]; rfl).trans ez215.symm)]; exact hzz215), h3k211.2⟩ (by decide +kernel)) (cwV 1 hg (kgV wt4_50 wt4_52 wp2_5 wt1_7 wt4_53) rfl rfl rfl (by decide +kernel) ⟨by decide, by decide⟩) hV hK hP hD hS hA (50) 4 rfl rfl rfl hl.1 rfl (Nat.le_of_ble_eq_true rfl) dX4_read_97 ⟨Nat.le_refl _, Nat.le_refl _⟩ (fun v263 u264 H locs hw262 hP hD hS => ?_)
                  obtain ⟨f265, a266, g267⟩ := u264
                  have hP : va_P D vwCl (xX K r f265 a266 g267 tx) H := hP
                  have hD : va_D A (xX K r f265 a266 g267 tx) := hD
                  have hI : xI f265 a266 := hw262.2.1
                  have hG : gOK K g267.2 tt := hw262.2.2.1
                  have eE268 : xEk [12, 13, 14, 32, 38, 44, 49, 50, 832, 838, 844, 849, 850, 1603, 1606, 1632] f_261 a208 g209 f265 a266 g267 := hw262.2.2.2.1
                  have hE : xEk [12, 13, 14, 32, 38, 44, 49, 50, 832, 838, 844, 849, 850] f a g f265 a266 g267 := xEk_tr hE (xEk_w (by decide) eE268)
                  have hk0 : xQ f265 a266 N true T pl := hw262.2.2.2.2.1
                  obtain ⟨ik269, nk269, hgk269, hlek269, hNk269, hck269⟩ := hw262.2.2.2.2.2
                  rcases hck269 with ⟨hvk269, h3k269, hltk269, hGk269⟩ | ⟨hvk269, hGk269⟩
                  · refine k_top (z := 1) hvk269 ?_
                    obtain ⟨gv270, egv270⟩ : ∃ z : Int32, z = f265 1604 := ⟨_, rfl⟩
                    have hg271 : gv270.toInt = ((ik269 : Nat) : Int) := by rw [egv270]; exact hgk269
                    have b272 : kb 0 gv270 400 := kb_pos hNk269 hN4 hg271
                    obtain ⟨z273, ez273⟩ : ∃ z : Int32, z = f265 1605 := ⟨_, rfl⟩
                    have hzz273 : z273.toInt = ((nk269 : Nat) : Int) := by rw [ez273]; exact h3k269.1
                    have b274 : kb 0 z273 50 := ⟨by omega, by have w1 := h3k269.2; omega⟩
                    refine lv_if_ne (tgt := 108) hx hb dX4_read_100 (by decide) (fun c275 => ?_) (fun c275 => ?_)
                    · refine lv_aload_n hx hb dX4_read_108 rfl (lv_at hl 1 rfl) ?_
                      refine va_get (D := D) (ci := 4) (v := .ref (r 51)) (C := RX4) (T := TX4) (N := 7) hx hb hg inC4 hown hK hP 50 rfl rfl 0 (by decide) (hg _ wt2_64) (fun _ h9 => h9) rfl dX4_read_109 ?_
                      refine lv_iconst (v := 2) hx hb dX4_read_112 (by decide) ?_
                      refine kVG.callW (As := [.int 2]) (rest := []) ⟨hx, hb, hml, hown, hg⟩ (y_close l r f265 a266 g267 tx tt hT hI hG 2 (kb_w kc_2 (by decide) (by decide)) ) (cwV 1 hg (kgV wt4_30 wt4_31 wt4_32 wt1_8 wt4_33) rfl rfl rfl (by decide +kernel) ⟨by decide, by decide⟩) hV hK hP hD hS hA (51) 10 rfl rfl rfl hl.1 rfl (Nat.le_of_ble_eq_true rfl) dX4_read_113 ⟨Nat.le_refl _, Nat.le_refl _⟩ (fun u278 H locs hw276 hP hD hS => ?_)
                      obtain ⟨f279, a280, g281⟩ := u278
                      have hP : va_P D vwCl (xX K r f279 a280 g281 tx) H := hP
                      have hD : va_D A (xX K r f279 a280 g281 tx) := hD
                      have hI : xI f279 a280 := hw276.1
                      have hG : gOK K g281.2 tt := hw276.2.1
                      have eE282 : xEk [12, 13, 14, 32, 38, 44, 49, 50, 832, 838, 844, 849, 850, 1603, 1604, 1605, 1606, 1632] f265 a266 g267 f279 a280 g281 := hw276.2.2.1
                      have hE : xEk [12, 13, 14, 32, 38, 44, 49, 50, 832, 838, 844, 849, 850] f a g f279 a280 g281 := xEk_tr hE (xEk_w (by decide) eE282)
                      have hk0 : xQ f279 a280 N true T pl := xQ_c hk0 (eE282.1 1603 rfl) (eE282.1 1606 rfl) hw276.2.2.2
                      refine lv_aload_n hx hb dX4_read_116 rfl (lv_at hl 1 rfl) ?_
                      refine kIG.callW (As := []) (rest := []) ⟨hx, hb, hml, hown, hg⟩ (y_inHand l r f279 a280 g281 tx tt hT hI hG   N (ik269) true T pl hk0 (by rw [((eE282.1 1604 rfl).trans egv270.symm)]; exact hg271) hNk269) (cwV 0 hg (kgV wt3_238 wt4_0 wp1_12 wt1_7 wt4_1) rfl rfl rfl (by decide +kernel) ⟨by decide, by decide⟩) hV hK hP hD hS hA (50) 4 rfl rfl rfl hl.1 rfl (Nat.le_of_ble_eq_true rfl) dX4_read_117 ⟨Nat.le_refl _, Nat.le_refl _⟩ (fun v284 u285 H locs hw283 hP hD hS => ?_)
                      have hP : va_P D vwCl (xX K r f279 a280 g281 tx) H := hP
                      have hD : va_D A (xX K r f279 a280 g281 tx) := hD
                      have b286 : kb 0 v284 4000 := kb_eq hw283.2 (hk0.2.2.2.2.2.2 (ik269))
                      refine lv_sipush (v := 4000) hx hb dX4_read_120 (by decide) ?_
                      refine lv_icmp_ne (tgt := 128) hx hb dX4_read_123 (by decide) (fun c287 => ?_) (fun c287 => ?_)
                      · have b288 : kb 0 v284 3999 := kr_neh c287 b286 kc_4000 (by decide)
                        refine lv_aload_n hx hb dX4_read_128 rfl (lv_at hl 1 rfl) ?_
                        refine kIG.callW (As := []) (rest := []) ⟨hx, hb, hml, hown, hg⟩ (y_inHand l r f279 a280 g281 tx tt hT hI hG   N (ik269) true T pl hk0 (by rw [((eE282.1 1604 rfl).trans egv270.symm)]; exact hg271) hNk269) (cwV 0 hg (kgV wt3_238 wt4_0 wp1_12 wt1_7 wt4_1) rfl rfl rfl (by decide +kernel) ⟨by decide, by decide⟩) hV hK hP hD hS hA (50) 4 rfl rfl rfl hl.1 rfl (Nat.le_of_ble_eq_true rfl) dX4_read_129 ⟨Nat.le_refl _, Nat.le_refl _⟩ (fun v290 u291 H locs hw289 hP hD hS => ?_)
                        have hP : va_P D vwCl (xX K r f279 a280 g281 tx) H := hP
                        have hD : va_D A (xX K r f279 a280 g281 tx) := hD
                        have b292 : kb 0 v290 4000 := kb_eq hw289.2 (hk0.2.2.2.2.2.2 (ik269))
                        refine lv_sipush (v := 3059) hx hb dX4_read_132 (by decide) ?_
                        refine lv_icmp_eq (tgt := 143) hx hb dX4_read_135 (by decide) (fun c293 => ?_) (fun c293 => ?_)
                        · have b294 : kb 3059 v290 3059 := kb_eq c293 kc_3059
                          refine lv_aload_n hx hb dX4_read_143 rfl (lv_at hl 1 rfl) ?_
                          refine lv_dup hx hb dX4_read_144 rfl ?_
                          have hlt295 : ik269 < N := xQ_lt hk0 (ne_4000 (hw289.2.symm.trans c293) (by decide +kernel))
                          have b296 : kb 0 gv270 399 := kb_pos1 hlt295 hN4 hg271
                          refine va_get (D := D) (ci := 4) (v := .int (f279 1604)) (C := RX4) (T := TX4) (N := 7) hx hb hg inC4 hown hK hP 50 rfl rfl 4 (by decide) (hg _ wt2_69) (fun _ h9 => h9) rfl dX4_read_145 ?_
                          refine k_top (z := gv270) ((eE282.1 1604 rfl).trans egv270.symm) ?_
                          refine lv_iconst (v := 1) hx hb dX4_read_148 (by decide) ?_
                          refine lv_iadd hx hb dX4_read_149 ?_
                          refine lv_topi (fun t297 et297 => ?_)
                          have b298 : kb 1 t297 400 := kb_eq et297 (kb_add b296 kc_1 (by decide) (by decide))
                          have qt297 : t297.toInt = gv270.toInt + 1 := by rw [et297]; exact kt_addc b296 kc_1 (by decide) (by decide)
                          have hg299 : t297.toInt = ((ik269 + 1 : Nat) : Int) := by rw [qt297, hg271]; omega
                          refine va_put (D := D) (ci := 4) (v := .int t297) (ty := .int) (C := RX4) (T := TX4) (N := 7) hx hb hg inC4 tyX4 tyX4_ok nmX4 hown hK hP hD hS 50 rfl rfl 4 (by decide) (hg _ wt2_69) (fun _ h9 => h9) rfl (by decide +kernel) rfl rfl (Nat.le_of_ble_eq_true rfl) dX4_read_150 (fun H locs hP hD hS => ?_)
                          have hP : va_P D vwCl (xX K r (upd f279 1604 t297) a280 g281 tx) H := hP
                          have hD : va_D A (xX K r (upd f279 1604 t297) a280 g281 tx) := hD
                          refine k_gen (P := fun z => va_P D vwCl (xX K r z a280 g281 tx) H ∧ va_D A (xX K r z a280 g281 tx) ∧ (xI z a280) ∧ (gOK K g281.2 tt) ∧ (xEk [12, 13, 14, 32, 38, 44, 49, 50, 832, 838, 844, 849, 850] f a g z a280 g281) ∧ (xQ z a280 N true T pl)) (upd f279 1604 t297) ⟨hP, hD, (xI_f hI (fI_st hI.1 1604 (kb_any _) (by decide) (by decide))), hG, (xEk_f hE (by decide)), (xQ_f hk0 (by decide) (by decide))⟩ (fun f_300 ef_300 hq => ?_)
                          obtain ⟨hP, hD, hI, hG, hE, hk0⟩ := hq
                          obtain ⟨t301, et301⟩ : ∃ z : Int32, z = y183 + Int32.ofInt 1 := ⟨_, rfl⟩
                          have qt301 : t301.toInt = y183.toInt + 1 := by rw [et301]; exact km_inc b202 (by decide) (by decide)
                          have b302 : kb 1 t301 12 := kb_inc (k := 1) qt301 b202
                          refine lv_iinc (v := t301) (lv' := [(4, .int t301), (0, .ref (r 50)), (1, .ref (r 93)), (2, .int len_), (3, .int isO)]) hx hb dX4_read_153 hl (k := 0) rfl et301.symm (by decide) rfl (fun ls hl => ?_)
                          refine lv_goto (tgt := 42) hx hb dX4_read_156 (by decide) ?_
                          exact ihlp187 (ik269 + 1) (nk269) (cn + 1) f_300 a280 g281 _ _ _ t301 (km_up hmlp187 qt301) hI hG hE hk0 (kb_w b302 (by decide) (by decide)) (by rw [(show f_300 1604 = t297 from by rw [← ef_300]; rfl)]; exact hg299) (hlt295) (⟨(by rw [((show f_300 1605 = f279 1605 from by rw [← ef_300]; rfl).trans ((eE282.1 1605 rfl).trans ez273.symm))]; exact hzz273), h3k269.2⟩) (⟨by have w1 := hvlp187_3; omega, hc12⟩) (by rw [((show f_300 1632 = f279 1632 from by rw [← ef_300]; rfl).trans ((eE282.1 1632 rfl).trans ((eE268.1 1632 rfl).trans ((show f_261 1632 = f207 1632 from by rw [← ef_261]; rfl).trans ez217.symm))))]; exact hCz217) (fun r h => xo r (c12 hc12 (pT_s (hGk211 _ (pi_12y (hw219.2.symm.trans c223) hGk269)) (Or.inl ⟨(hw289.2.symm.trans c293), h⟩)))) hP hD hS (lv_sub hl [0, 1, 2, 3, 4] rfl)
                        · refine lv_aload_n hx hb dX4_read_138 rfl (lv_at hl 1 rfl) ?_
                          refine kIG.callW (As := []) (rest := []) ⟨hx, hb, hml, hown, hg⟩ (y_placeInHand l r f279 a280 g281 tx tt hT hI hG   N (ik269) true T pl hk0 (by rw [((eE282.1 1604 rfl).trans egv270.symm)]; exact hg271) hNk269) (cwV 0 hg (kgV wt4_46 wt4_48 wp2_4 wt1_7 wt4_49) rfl rfl rfl (by decide +kernel) ⟨by decide, by decide⟩) hV hK hP hD hS hA (50) 4 rfl rfl rfl hl.1 rfl (Nat.le_of_ble_eq_true rfl) dX4_read_139 ⟨Nat.le_refl _, Nat.le_refl _⟩ (fun v304 u305 H locs hw303 hP hD hS => ?_)
                          have hP : va_P D vwCl (xX K r f279 a280 g281 tx) H := hP
                          have hD : va_D A (xX K r f279 a280 g281 tx) := hD
                          exact kI_ret (v := v304) hx hb hr hlocks rfl hK hS dX4_read_142 (f279, a280, g281) hP hD ⟨(kb_any v304), hI, hG, hE, ⟨false, N, ik269, hsp.1, hsp.2.1, (by rw [← hTd]; exact xo _ (c12 hc12 (pT_s (hGk211 _ (pi_12y (hw219.2.symm.trans c223) hGk269)) (Or.inr (Or.inl ⟨(fun q => c293 (hw289.2.trans q)), xQ_lt hk0 (fun q => c287 (hw283.2.trans q)), rfl⟩))))), (hw303.2.trans (congrFun hpd _))⟩⟩
                      · have b306 : kb 4000 v284 4000 := kb_eq c287 kc_4000
                        refine lv_iconst (v := (-1)) hx hb dX4_read_126 (by decide) ?_
                        exact kI_ret (v := (-1)) hx hb hr hlocks rfl hK hS dX4_read_127 (f279, a280, g281) hP hD ⟨(kb_w kc_m1 (by decide) (by decide)), hI, hG, hE, ⟨true, N, ik269, hsp.1, hsp.2.1, (by rw [← hTd]; exact xo _ (c12 hc12 (pT_s (hGk211 _ (pi_12y (hw219.2.symm.trans c223) hGk269)) (Or.inr (Or.inr ⟨(fun q => absurd ((hw283.2.symm.trans c287).symm.trans q) (by decide +kernel)), tk_end hsp.2.1 (by rw [← hTd]; exact (hw283.2.symm.trans c287)), rfl⟩))))), rfl⟩⟩
                    · exact kb_dj c275 kc_1 kc_0 (by decide)
                  · refine k_top (z := 0) hvk269 ?_
                    obtain ⟨gv307, egv307⟩ : ∃ z : Int32, z = f265 1604 := ⟨_, rfl⟩
                    have hg308 : gv307.toInt = ((ik269 : Nat) : Int) := by rw [egv307]; exact hgk269
                    have b309 : kb 0 gv307 400 := kb_pos hNk269 hN4 hg308
                    refine lv_if_ne (tgt := 108) hx hb dX4_read_100 (by decide) (fun c310 => ?_) (fun c310 => ?_)
                    · exact kb_nsame c310 kc_0 kc_0
                    · refine lv_aload_n hx hb dX4_read_103 rfl (lv_at hl 1 rfl) ?_
                      refine kIG.callW (As := []) (rest := []) ⟨hx, hb, hml, hown, hg⟩ (y_placeInHand l r f265 a266 g267 tx tt hT hI hG   N (ik269) true T pl hk0 (by rw [egv307.symm]; exact hg308) hNk269) (cwV 0 hg (kgV wt4_46 wt4_48 wp2_4 wt1_7 wt4_49) rfl rfl rfl (by decide +kernel) ⟨by decide, by decide⟩) hV hK hP hD hS hA (50) 4 rfl rfl rfl hl.1 rfl (Nat.le_of_ble_eq_true rfl) dX4_read_104 ⟨Nat.le_refl _, Nat.le_refl _⟩ (fun v312 u313 H locs hw311 hP hD hS => ?_)
                      have hP : va_P D vwCl (xX K r f265 a266 g267 tx) H := hP
                      have hD : va_D A (xX K r f265 a266 g267 tx) := hD
                      exact kI_ret (v := v312) hx hb hr hlocks rfl hK hS dX4_read_107 (f265, a266, g267) hP hD ⟨(kb_any v312), hI, hG, hE, ⟨false, N, ik269, hsp.1, hsp.2.1, (by rw [← hTd]; exact xo _ (c12 hc12 (pT_f (hGk211 _ (pi_12y (hw219.2.symm.trans c223) hGk269))))), (hw311.2.trans (congrFun hpd _))⟩⟩
            · refine k_top (z := 0) hvk211 ?_
              obtain ⟨gv314, egv314⟩ : ∃ z : Int32, z = f207 1604 := ⟨_, rfl⟩
              have hg315 : gv314.toInt = ((ik211 : Nat) : Int) := by rw [egv314]; exact hgk211
              have b316 : kb 0 gv314 400 := kb_pos hNk211 hN4 hg315
              refine lv_if_eq (tgt := 70) hx hb dX4_read_57 (by decide) (fun c317 => ?_) (fun c317 => ?_)
              · refine lv_aload_n hx hb dX4_read_70 rfl (lv_at hl 1 rfl) ?_
                refine kIG.callW (As := []) (rest := []) ⟨hx, hb, hml, hown, hg⟩ (y_placeInHand l r f207 a208 g209 tx tt hT hI hG   N (ik211) true T pl hk0 (by rw [egv314.symm]; exact hg315) hNk211) (cwV 0 hg (kgV wt4_46 wt4_48 wp2_4 wt1_7 wt4_49) rfl rfl rfl (by decide +kernel) ⟨by decide, by decide⟩) hV hK hP hD hS hA (50) 4 rfl rfl rfl hl.1 rfl (Nat.le_of_ble_eq_true rfl) dX4_read_71 ⟨Nat.le_refl _, Nat.le_refl _⟩ (fun v319 u320 H locs hw318 hP hD hS => ?_)
                have hP : va_P D vwCl (xX K r f207 a208 g209 tx) H := hP
                have hD : va_D A (xX K r f207 a208 g209 tx) := hD
                exact kI_ret (v := v319) hx hb hr hlocks rfl hK hS dX4_read_74 (f207, a208, g209) hP hD ⟨(kb_any v319), hI, hG, hE, ⟨false, N, ik211, hsp.1, hsp.2.1, (by rw [← hTd]; exact xo _ (c12 hc12 (pT_f hGk211))), (hw318.2.trans (congrFun hpd _))⟩⟩
              · exact kb_nsame c317 kc_0 kc_0
    exact lp187 (13) (0) (0) 0 f_182 a177 g178 _ _ _ 0 (by have h1 := (kc_0); unfold kb at h1; omega) hI hG hE hk0 (kb_w kc_0 (by decide) (by decide)) (by rw [((show f_182 1604 = f_181 1604 from by rw [← ef_182]; rfl).trans ((show f_181 1604 = f_180 1604 from by rw [← ef_181]; rfl).trans (show f_180 1604 = 0 from by rw [← ef_180]; rfl)))]; exact (by decide +kernel)) ((Nat.zero_le N)) (⟨(by rw [((show f_182 1605 = f_181 1605 from by rw [← ef_182]; rfl).trans (show f_181 1605 = 0 from by rw [← ef_181]; rfl))]; exact (by decide +kernel)), (by decide)⟩) (⟨by decide +kernel, by decide⟩) (by rw [((show f_182 1632 = f_181 1632 from by rw [← ef_182]; rfl).trans ((show f_181 1632 = f_180 1632 from by rw [← ef_181]; rfl).trans ((show f_180 1632 = f176 1632 from by rw [← ef_180]; rfl).trans hw173.2.2.2.2)))]; decide +kernel) (fun r h => h) hP hD hS (lv_sub hl [0, 1, 2, 3, 4] rfl)
