theorem tk_end {t : Nat → Int32} {S N j : Nat} (h : ∀ i, i < N → plT t S i < S) (e : tkT t S j = 4000) : ¬ j < N := by
  intro hj
  rw [tkT_l (h j hj)] at e
  have w := (toT_b (t := t) (h j hj)).2
  rw [e] at w
  exact absurd w (by decide +kernel)
theorem min_S {x y : Int32} {S : Nat} (hx : x.toInt = (S : Int)) (h : x.toInt ≤ y.toInt) : (if y < x then y else x).toInt = (S : Int) := by
  rw [if_neg (fun q => by have w := kc_lt q; omega)]
  exact hx
theorem dX4_read_0 : decode cX4_read 0 = .ok (.aload_n 0, 1) := by decide +kernel
theorem dX4_read_1 : decode cX4_read 1 = .ok (.aload_n 1, 1) := by decide +kernel
theorem dX4_read_2 : decode cX4_read 2 = .ok (.iload_n 2, 1) := by decide +kernel
theorem dX4_read_3 : decode cX4_read 3 = .ok (.aload_n 1, 1) := by decide +kernel
theorem dX4_read_4 : decode cX4_read 4 = .ok (.arraylength, 1) := by decide +kernel
theorem dX4_read_5 : decode cX4_read 5 = .ok (.sipush 400, 3) := by decide +kernel
theorem dX4_read_8 : decode cX4_read 8 = .ok (.invokestatic 41, 3) := by decide +kernel
theorem dX4_read_11 : decode cX4_read 11 = .ok (.invokestatic 41, 3) := by decide +kernel
theorem dX4_read_14 : decode cX4_read 14 = .ok (.invokevirtual 47, 3) := by decide +kernel
theorem dX4_read_17 : decode cX4_read 17 = .ok (.aload_n 0, 1) := by decide +kernel
theorem dX4_read_18 : decode cX4_read 18 = .ok (.getfield 16, 3) := by decide +kernel
theorem dX4_read_21 : decode cX4_read 21 = .ok (.invokevirtual 51, 3) := by decide +kernel
theorem dX4_read_24 : decode cX4_read 24 = .ok (.aload_n 0, 1) := by decide +kernel
theorem dX4_read_25 : decode cX4_read 25 = .ok (.iconst 0, 1) := by decide +kernel
theorem dX4_read_26 : decode cX4_read 26 = .ok (.putfield 31, 3) := by decide +kernel
theorem dX4_read_29 : decode cX4_read 29 = .ok (.aload_n 0, 1) := by decide +kernel
theorem dX4_read_30 : decode cX4_read 30 = .ok (.iconst 0, 1) := by decide +kernel
theorem dX4_read_31 : decode cX4_read 31 = .ok (.putfield 34, 3) := by decide +kernel
theorem dX4_read_34 : decode cX4_read 34 = .ok (.aload_n 0, 1) := by decide +kernel
theorem dX4_read_35 : decode cX4_read 35 = .ok (.iload_n 3, 1) := by decide +kernel
theorem dX4_read_36 : decode cX4_read 36 = .ok (.putfield 37, 3) := by decide +kernel
theorem dX4_read_39 : decode cX4_read 39 = .ok (.iconst 0, 1) := by decide +kernel
theorem dX4_read_40 : decode cX4_read 40 = .ok (.istore 4, 2) := by decide +kernel
theorem dX4_read_42 : decode cX4_read 42 = .ok (.iload 4, 2) := by decide +kernel
theorem dX4_read_44 : decode cX4_read 44 = .ok (.bipush 12, 2) := by decide +kernel
theorem dX4_read_46 : decode cX4_read 46 = .ok (.if_icmp .ge 113, 3) := by decide +kernel
theorem dX4_read_49 : decode cX4_read 49 = .ok (.iload_n 3, 1) := by decide +kernel
theorem dX4_read_50 : decode cX4_read 50 = .ok (.ifCond .eq 13, 3) := by decide +kernel
theorem dX4_read_53 : decode cX4_read 53 = .ok (.aload_n 0, 1) := by decide +kernel
theorem dX4_read_54 : decode cX4_read 54 = .ok (.invokevirtual 54, 3) := by decide +kernel
theorem dX4_read_57 : decode cX4_read 57 = .ok (.ifCond .eq 13, 3) := by decide +kernel
theorem dX4_read_60 : decode cX4_read 60 = .ok (.goto 15, 3) := by decide +kernel
theorem dX4_read_63 : decode cX4_read 63 = .ok (.aload_n 0, 1) := by decide +kernel
theorem dX4_read_64 : decode cX4_read 64 = .ok (.invokevirtual 58, 3) := by decide +kernel
theorem dX4_read_67 : decode cX4_read 67 = .ok (.ifCond .ne 8, 3) := by decide +kernel
theorem dX4_read_70 : decode cX4_read 70 = .ok (.aload_n 0, 1) := by decide +kernel
theorem dX4_read_71 : decode cX4_read 71 = .ok (.invokevirtual 61, 3) := by decide +kernel
theorem dX4_read_74 : decode cX4_read 74 = .ok (.ireturn, 1) := by decide +kernel
theorem dX4_read_75 : decode cX4_read 75 = .ok (.aload_n 0, 1) := by decide +kernel
theorem dX4_read_76 : decode cX4_read 76 = .ok (.invokevirtual 65, 3) := by decide +kernel
theorem dX4_read_79 : decode cX4_read 79 = .ok (.sipush 2003, 3) := by decide +kernel
theorem dX4_read_82 : decode cX4_read 82 = .ok (.if_icmp .ne 26, 3) := by decide +kernel
theorem dX4_read_85 : decode cX4_read 85 = .ok (.aload_n 0, 1) := by decide +kernel
theorem dX4_read_86 : decode cX4_read 86 = .ok (.dup, 1) := by decide +kernel
theorem dX4_read_87 : decode cX4_read 87 = .ok (.getfield 31, 3) := by decide +kernel
theorem dX4_read_90 : decode cX4_read 90 = .ok (.iconst 1, 1) := by decide +kernel
theorem dX4_read_91 : decode cX4_read 91 = .ok (.iadd, 1) := by decide +kernel
theorem dX4_read_92 : decode cX4_read 92 = .ok (.putfield 31, 3) := by decide +kernel
theorem dX4_read_95 : decode cX4_read 95 = .ok (.aload_n 0, 1) := by decide +kernel
theorem dX4_read_96 : decode cX4_read 96 = .ok (.iconst 0, 1) := by decide +kernel
theorem dX4_read_97 : decode cX4_read 97 = .ok (.invokevirtual 68, 3) := by decide +kernel
theorem dX4_read_100 : decode cX4_read 100 = .ok (.ifCond .ne 8, 3) := by decide +kernel
theorem dX4_read_103 : decode cX4_read 103 = .ok (.aload_n 0, 1) := by decide +kernel
theorem dX4_read_104 : decode cX4_read 104 = .ok (.invokevirtual 61, 3) := by decide +kernel
theorem dX4_read_107 : decode cX4_read 107 = .ok (.ireturn, 1) := by decide +kernel
theorem dX4_read_108 : decode cX4_read 108 = .ok (.aload_n 0, 1) := by decide +kernel
theorem dX4_read_109 : decode cX4_read 109 = .ok (.getfield 16, 3) := by decide +kernel
theorem dX4_read_112 : decode cX4_read 112 = .ok (.iconst 2, 1) := by decide +kernel
theorem dX4_read_113 : decode cX4_read 113 = .ok (.invokevirtual 72, 3) := by decide +kernel
theorem dX4_read_116 : decode cX4_read 116 = .ok (.aload_n 0, 1) := by decide +kernel
theorem dX4_read_117 : decode cX4_read 117 = .ok (.invokevirtual 65, 3) := by decide +kernel
theorem dX4_read_120 : decode cX4_read 120 = .ok (.sipush 4000, 3) := by decide +kernel
theorem dX4_read_123 : decode cX4_read 123 = .ok (.if_icmp .ne 5, 3) := by decide +kernel
theorem dX4_read_126 : decode cX4_read 126 = .ok (.iconst (-1), 1) := by decide +kernel
theorem dX4_read_127 : decode cX4_read 127 = .ok (.ireturn, 1) := by decide +kernel
theorem dX4_read_128 : decode cX4_read 128 = .ok (.aload_n 0, 1) := by decide +kernel
theorem dX4_read_129 : decode cX4_read 129 = .ok (.invokevirtual 65, 3) := by decide +kernel
theorem dX4_read_132 : decode cX4_read 132 = .ok (.sipush 3059, 3) := by decide +kernel
theorem dX4_read_135 : decode cX4_read 135 = .ok (.if_icmp .eq 8, 3) := by decide +kernel
theorem dX4_read_138 : decode cX4_read 138 = .ok (.aload_n 0, 1) := by decide +kernel
theorem dX4_read_139 : decode cX4_read 139 = .ok (.invokevirtual 61, 3) := by decide +kernel
theorem dX4_read_142 : decode cX4_read 142 = .ok (.ireturn, 1) := by decide +kernel
theorem dX4_read_143 : decode cX4_read 143 = .ok (.aload_n 0, 1) := by decide +kernel
theorem dX4_read_144 : decode cX4_read 144 = .ok (.dup, 1) := by decide +kernel
theorem dX4_read_145 : decode cX4_read 145 = .ok (.getfield 31, 3) := by decide +kernel
theorem dX4_read_148 : decode cX4_read 148 = .ok (.iconst 1, 1) := by decide +kernel
theorem dX4_read_149 : decode cX4_read 149 = .ok (.iadd, 1) := by decide +kernel
theorem dX4_read_150 : decode cX4_read 150 = .ok (.putfield 31, 3) := by decide +kernel
theorem dX4_read_153 : decode cX4_read 153 = .ok (.iinc 4 1, 3) := by decide +kernel
theorem dX4_read_156 : decode cX4_read 156 = .ok (.goto (-114), 3) := by decide +kernel
theorem dX4_read_159 : decode cX4_read 159 = .ok (.aload_n 0, 1) := by decide +kernel
theorem dX4_read_160 : decode cX4_read 160 = .ok (.invokevirtual 61, 3) := by decide +kernel
theorem dX4_read_163 : decode cX4_read 163 = .ok (.ireturn, 1) := by decide +kernel
theorem dX10_clear_0 : decode cX10_clear 0 = .ok (.aload_n 0, 1) := by decide +kernel
theorem dX10_clear_1 : decode cX10_clear 1 = .ok (.iconst 0, 1) := by decide +kernel
theorem dX10_clear_2 : decode cX10_clear 2 = .ok (.putfield 9, 3) := by decide +kernel
theorem dX10_clear_5 : decode cX10_clear 5 = .ok (.aload_n 0, 1) := by decide +kernel
theorem dX10_clear_6 : decode cX10_clear 6 = .ok (.iconst 0, 1) := by decide +kernel
theorem dX10_clear_7 : decode cX10_clear 7 = .ok (.putfield 25, 3) := by decide +kernel
theorem dX10_clear_10 : decode cX10_clear 10 = .ok (.aload_n 0, 1) := by decide +kernel
theorem dX10_clear_11 : decode cX10_clear 11 = .ok (.getfield 22, 3) := by decide +kernel
theorem dX10_clear_14 : decode cX10_clear 14 = .ok (.iconst 0, 1) := by decide +kernel
theorem dX10_clear_15 : decode cX10_clear 15 = .ok (.invokestatic 46, 3) := by decide +kernel
theorem dX10_clear_18 : decode cX10_clear 18 = .ok (.return_, 1) := by decide +kernel
theorem wt4_49 : Cond.code yX4_placeInHand cX4_placeInHand 1 (some .int) ∈ kG := kt4 49 rfl rfl
theorem wt4_45 : Cond.code yX4_readRule cX4_readRule 2 (some .boolean) ∈ kG := kt4 45 rfl rfl
theorem wt3_237 : Cond.code yX4_readOrder cX4_readOrder 2 (some .boolean) ∈ kG := kt3 237 rfl rfl
theorem wt3_161 : Cond.code yX4_split cX4_split 7 none ∈ kG := kt3 161 rfl rfl
theorem wt3_231 : Cond.methodLink RX10 46 yJ7_fill_53178 ∈ kG := kt3 231 rfl rfl
theorem wt3_230 : Cond.code yX10_clear cX10_clear 1 none ∈ kG := kt3 230 rfl rfl
theorem wt3_157 : Cond.methodLink RX4 41 Lib.Math.min.name ∈ kG := kt3 157 rfl rfl
theorem wt3_158 : Cond.methodLink RX4 47 yX4_split ∈ kG := kt3 158 rfl rfl
theorem wt3_160 : Cond.instanceMethod yX4_split ∈ kG := kt3 160 rfl rfl
theorem wp1_9 : Cond.selects RX4 yX4_split yX4_split ∈ kG := kp1 9 rfl rfl
theorem wt3_227 : Cond.methodLink RX4 51 yX10_clear ∈ kG := kt3 227 rfl rfl
theorem wt3_228 : Cond.instanceMethod yX10_clear ∈ kG := kt3 228 rfl rfl
theorem wt3_229 : Cond.selects RX10 yX10_clear yX10_clear ∈ kG := kt3 229 rfl rfl
theorem wt4_46 : Cond.methodLink RX4 61 yX4_placeInHand ∈ kG := kt4 46 rfl rfl
theorem wt4_48 : Cond.instanceMethod yX4_placeInHand ∈ kG := kt4 48 rfl rfl
theorem wp2_4 : Cond.selects RX4 yX4_placeInHand yX4_placeInHand ∈ kG := kp2 4 rfl rfl
theorem wt4_42 : Cond.methodLink RX4 58 yX4_readRule ∈ kG := kt4 42 rfl rfl
theorem wt4_44 : Cond.instanceMethod yX4_readRule ∈ kG := kt4 44 rfl rfl
theorem wp2_3 : Cond.selects RX4 yX4_readRule yX4_readRule ∈ kG := kp2 3 rfl rfl
theorem wt3_234 : Cond.methodLink RX4 54 yX4_readOrder ∈ kG := kt3 234 rfl rfl
theorem wt3_236 : Cond.instanceMethod yX4_readOrder ∈ kG := kt3 236 rfl rfl
theorem wp1_11 : Cond.selects RX4 yX4_readOrder yX4_readOrder ∈ kG := kp1 11 rfl rfl
theorem kc_2003 : kb 2003 2003 2003 := ⟨by decide +kernel, by decide +kernel⟩
theorem kc_3059 : kb 3059 3059 3059 := ⟨by decide +kernel, by decide +kernel⟩
set_option maxHeartbeats 4000000 in
set_option maxRecDepth 100000 in
theorem y_clear  (l : Launch) {D : va_G} {K : Nat → ClassId} (r : Nat → Nat) (f : Nat → Int32) (a : Nat → Nat → Int32) (g : xG) (tx tt : va_W) (hT : ∀ c ∈ tt, c ∈ tx) (hI : xI f a) (hG : gOK K g.2 tt)     : kVG l yX10_clear (Cond.code yX10_clear cX10_clear 1 none :: kG) (rmD 2 0 0) D K [.ref (r 51)] (xX K r f a g tx) (fun (u : xS) => xI u.1 u.2.1 ∧ gOK K u.2.2.2 tt ∧ xEk ([1632, 1637], [54], []) f a g u.1 u.2.1 u.2.2 ∧ u.1 1632 = 0 ∧ u.1 1637 = 0 ∧ (u.2.1 54 0).toInt = 0) (fun u => xX K r u.1 u.2.1 u.2.2 tx) 0 0 := by
  refine kVG.of (cc := cX10_clear) (maxL := 1) (ret := none) (by decide) rfl (Nat.le_of_ble_eq_true rfl) ?_
  intro p e s m below meth c A hx hb hr hml hown hts hlocks hnm hK hP hD hS hA hV ls hl
  have hE : xEk ([1632, 1637], [54], []) f a g f a g := xEk_rf
  have hg : ∀ w ∈ kG, w.before _ s = true := fun w h => hts w (List.mem_cons_of_mem _ h)
  have hown : s.vm.findClass RX10 = some m.cls := hown
  have hl : lv_has ls 1 [(0, .ref (r 51))] := hl
  refine lv_aload_n hx hb dX10_clear_0 rfl (lv_at hl 0 rfl) ?_
  refine lv_iconst (v := 0) hx hb dX10_clear_1 (by decide) ?_
  refine va_put (D := D) (ci := 10) (v := .int 0) (ty := .int) (C := RX10) (T := TX10) (N := 6) hx hb hg inC10 tyX10 tyX10_ok nmX10 hown hK hP hD hS 51 rfl rfl 0 (by decide) (hg _ wt2_40) (fun _ h9 => h9) rfl (by decide +kernel) rfl rfl (Nat.le_of_ble_eq_true rfl) dX10_clear_2 (fun H locs hP hD hS => ?_)
  have hP : va_P D vwCl (xX K r (upd f 1632 0) a g tx) H := hP
  have hD : va_D A (xX K r (upd f 1632 0) a g tx) := hD
  refine k_gen (P := fun z => va_P D vwCl (xX K r z a g tx) H ∧ va_D A (xX K r z a g tx) ∧ (xI z a) ∧ (gOK K g.2 tt) ∧ (xEk ([1632, 1637], [54], []) f a g z a g)) (upd f 1632 0) ⟨hP, hD, (xI_f hI (fI_st hI.1 1632 kc_0 (by decide) (by decide))), hG, (xEk_f hE rfl)⟩ (fun f_1 ef_1 hq => ?_)
  obtain ⟨hP, hD, hI, hG, hE⟩ := hq
  refine lv_aload_n hx hb dX10_clear_5 rfl (lv_at hl 0 rfl) ?_
  refine lv_iconst (v := 0) hx hb dX10_clear_6 (by decide) ?_
  refine va_put (D := D) (ci := 10) (v := .int 0) (ty := .int) (C := RX10) (T := TX10) (N := 6) hx hb hg inC10 tyX10 tyX10_ok nmX10 hown hK hP hD hS 51 rfl rfl 5 (by decide) (hg _ wt2_50) (fun _ h9 => h9) rfl (by decide +kernel) rfl rfl (Nat.le_of_ble_eq_true rfl) dX10_clear_7 (fun H locs hP hD hS => ?_)
  have hP : va_P D vwCl (xX K r (upd f_1 1637 0) a g tx) H := hP
  have hD : va_D A (xX K r (upd f_1 1637 0) a g tx) := hD
  refine k_gen (P := fun z => va_P D vwCl (xX K r z a g tx) H ∧ va_D A (xX K r z a g tx) ∧ (xI z a) ∧ (gOK K g.2 tt) ∧ (xEk ([1632, 1637], [54], []) f a g z a g)) (upd f_1 1637 0) ⟨hP, hD, (xI_f hI (fI_st hI.1 1637 kc_0 (by decide) (by decide))), hG, (xEk_f hE rfl)⟩ (fun f_2 ef_2 hq => ?_)
  obtain ⟨hP, hD, hI, hG, hE⟩ := hq
  refine lv_aload_n hx hb dX10_clear_10 rfl (lv_at hl 0 rfl) ?_
  refine va_get (D := D) (ci := 10) (v := .ref (r 54)) (C := RX10) (T := TX10) (N := 6) hx hb hg inC10 hown hK hP 51 rfl rfl 3 (by decide) (hg _ wt2_48) (fun _ h9 => h9) rfl dX10_clear_11 ?_
  refine lv_iconst (v := 0) hx hb dX10_clear_14 (by decide) ?_
  refine kV.callA (q0 := 54) (As := [.ref (r 54), .int 0]) (rest := []) ⟨hx, hb, hml, hown, hg⟩ (x_fill l (r 54) 37 (a 54) 0 (by decide)) (va_cwS 2 hg (kgS wt3_231 wt3_232 wt1_19 wt3_233) rfl rfl rfl (by decide +kernel) ⟨by decide, by decide⟩) hK hP hD hS hA rfl rfl hl.1 rfl (Nat.le_of_ble_eq_true rfl) dX10_clear_15 ⟨by decide, by decide⟩ (fun u3 H locs hw4 hP hD hS => ?_)
  have hP : va_P D vwCl (xX K r f_2 (va_up a 54 u3) g tx) H := hP
  have hD : va_D A (xX K r f_2 (va_up a 54 u3) g tx) := hD
  refine k_gen (P := fun z => va_P D vwCl (xX K r f_2 z g tx) H ∧ va_D A (xX K r f_2 z g tx) ∧ (xI f_2 z) ∧ (gOK K g.2 tt) ∧ (xEk ([1632, 1637], [54], []) f a g f_2 z g)) (va_up a 54 u3) ⟨hP, hD, (xI_a hI (by decide)), hG, (xEk_a hE rfl)⟩ (fun a_5 ea_5 hq => ?_)
  obtain ⟨hP, hD, hI, hG, hE⟩ := hq
  exact kV_ret hx hb hr hlocks hK hS dX10_clear_18 (f_2, a_5, g) hP hD ⟨hI, hG, hE, ((show f_2 1632 = f_1 1632 from by rw [← ef_2]; rfl).trans (show f_1 1632 = 0 from by rw [← ef_1]; rfl)), (show f_2 1637 = 0 from by rw [← ef_2]; rfl), (by show (a_5 54 0).toInt = 0; rw [← ea_5, show va_up a 54 u3 54 0 = u3 0 from rfl, hw4 0 (by decide)]; decide +kernel)⟩
set_option maxHeartbeats 4000000 in
set_option maxRecDepth 100000 in
theorem y_read  (l : Launch) {D : va_G} {K : Nat → ClassId} (r : Nat → Nat) (f : Nat → Int32) (a : Nat → Nat → Int32) (g : xG) (tx tt : va_W) (hT : ∀ c ∈ tt, c ∈ tx) (hI : xI f a) (hG : gOK K g.2 tt) (len_ : Int32) (isO : Int32) (blen_ : kb 0 len_ 400) (bisO : kb 0 isO 1) (S : Nat) (ob : Bool) (hp0 : len_.toInt = (S : Int)) (hp1 : isO = (if ob = true then 1 else 0)) : kIG l yX4_read (Cond.code yX4_read cX4_read 5 (some .int) :: kG) (rmD 28 0 0) D K [.ref (r 50), .ref (r 93), .int len_, .int isO] (xX K r f a g tx) (fun v (u : xS) => kb (-2147483648) v 2147483647 ∧ xI u.1 u.2.1 ∧ gOK K u.2.2.2 tt ∧ xEk ([1603, 1604, 1605, 1606, 1632, 1637], [52, 53, 54, 55, 56, 57], []) f a g u.1 u.2.1 u.2.2 ∧ (∃ b : Bool, txR ob (a 93) S b v ∧ (b = true → ∃ N n sz : Nat, (u.1 1632).toInt = (n : Int) ∧ (u.1 1637).toInt = (sz : Int) ∧ sz ≤ 400 ∧ plT (a 93) S N = S ∧ (∀ i, i < N → plT (a 93) S i < S) ∧ rdF ob (tkT (a 93) S) N n sz u.2.1))) (fun u => xX K r u.1 u.2.1 u.2.2 tx) 0 0 := by
  refine kIE.of (cc := cX4_read) (maxL := 5) (ret := (some .int)) (by decide) rfl (Nat.le_of_ble_eq_true rfl) ?_
  intro p e s m below meth c A hx hb hr hml hown hts hlocks hnm hK hP hD hS hA hV ls hl
  have hE : xEk ([1603, 1604, 1605, 1606, 1632, 1637], [52, 53, 54, 55, 56, 57], []) f a g f a g := xEk_rf
  have hg : ∀ w ∈ kG, w.before _ s = true := fun w h => hts w (List.mem_cons_of_mem _ h)
  have hown : s.vm.findClass RX4 = some m.cls := hown
  have hl : lv_has ls 5 [(0, .ref (r 50)), (1, .ref (r 93)), (2, .int len_), (3, .int isO)] := hl
  cases ob
  · have hisO : isO = (if false = true then 1 else 0) := hp1
    have hiz : isO = 0 := hisO.trans (if_neg (by decide))
    have b1 : kb 0 isO 0 := (by rw [hiz]; exact ⟨by decide +kernel, by decide +kernel⟩)
    refine lv_aload_n hx hb dX4_read_0 rfl (lv_at hl 0 rfl) ?_
    refine lv_aload_n hx hb dX4_read_1 rfl (lv_at hl 1 rfl) ?_
    refine lv_iload_n hx hb dX4_read_2 rfl (lv_at hl 2 rfl) ?_
    refine lv_aload_n hx hb dX4_read_3 rfl (lv_at hl 1 rfl) ?_
    refine va_alen (v := 400) hx hb hK hP 93 1 rfl rfl rfl dX4_read_4 ?_
    refine lv_sipush (v := 400) hx hb dX4_read_5 (by decide) ?_
    refine va_mmin hx hb (hml.trans hl.1.symm) hown (hg _ wt3_157) (hg _ wt3_52) (hg _ wt1_9) (hg _ wt3_53) (by decide) (Nat.le_of_ble_eq_true rfl) (by decide) (by decide) dX4_read_8 ?_
    refine lv_topi (fun t2 et2 => ?_)
    have b3 : kb 400 t2 400 := kb_eq et2 (kb_mn kc_400 kc_400 (by decide) (by decide) (by decide) (by decide))
    refine va_mmin hx hb (hml.trans hl.1.symm) hown (hg _ wt3_157) (hg _ wt3_52) (hg _ wt1_9) (hg _ wt3_53) (by decide) (Nat.le_of_ble_eq_true rfl) (by decide) (by decide) dX4_read_11 ?_
    refine lv_topi (fun t4 et4 => ?_)
    have b5 : kb 0 t4 400 := kb_eq et4 (kb_mn blen_ b3 (by decide) (by decide) (by decide) (by decide))
    refine kVG.callW (As := [.ref (r 93), .int t4]) (rest := []) ⟨hx, hb, hml, hown, hg⟩ (y_split l r f a g tx tt hT hI hG t4 b5 S (by rw [et4]; exact min_S hp0 (by have w1 := (b3).1; have w2 := blen_.2; omega))) (cwV 2 hg (kgV wt3_158 wt3_160 wp1_9 wt1_7 wt3_161) rfl rfl rfl (by decide +kernel) ⟨by decide, by decide⟩) hV hK hP hD hS hA (50) 4 rfl rfl rfl hl.1 rfl (Nat.le_of_ble_eq_true rfl) dX4_read_14 ⟨Nat.le_refl _, Nat.le_refl _⟩ (fun u8 H locs hw6 hP hD hS => ?_)
    obtain ⟨f9, a10, g11⟩ := u8
    have hP : va_P D vwCl (xX K r f9 a10 g11 tx) H := hP
    have hD : va_D A (xX K r f9 a10 g11 tx) := hD
    have hI : xI f9 a10 := hw6.1
    have hG : gOK K g11.2 tt := hw6.2.1
    have eE12 : xEk ([1603], [56, 57], []) f a g f9 a10 g11 := hw6.2.2.1
    have hE : xEk ([1603, 1604, 1605, 1606, 1632, 1637], [52, 53, 54, 55, 56, 57], []) f a g f9 a10 g11 := xEk_tr hE (xEk_w (by decide +kernel) eE12)
    obtain ⟨N, hN1, hN2, hsp⟩ := hw6.2.2.2
    obtain ⟨cS, ecS⟩ : ∃ z : Int32, z = f9 1603 := ⟨_, rfl⟩
    have hcS : cS.toInt = (N : Int) + 1 := by rw [ecS]; exact hN1
    refine lv_aload_n hx hb dX4_read_17 rfl (lv_at hl 0 rfl) ?_
    refine va_get (D := D) (ci := 4) (v := .ref (r 51)) (C := RX4) (T := TX4) (N := 7) hx hb hg inC4 hown hK hP 50 rfl rfl 0 (by decide) (hg _ wt2_64) (fun _ h9 => h9) rfl dX4_read_18 ?_
    refine kVG.callW (As := []) (rest := []) ⟨hx, hb, hml, hown, hg⟩ (y_clear l r f9 a10 g11 tx tt hT hI hG   ) (cwV 0 hg (kgV wt3_227 wt3_228 wt3_229 wt1_8 wt3_230) rfl rfl rfl (by decide +kernel) ⟨by decide, by decide⟩) hV hK hP hD hS hA (51) 10 rfl rfl rfl hl.1 rfl (Nat.le_of_ble_eq_true rfl) dX4_read_21 ⟨Nat.le_refl _, Nat.le_refl _⟩ (fun u15 H locs hw13 hP hD hS => ?_)
    obtain ⟨f16, a17, g18⟩ := u15
    have hP : va_P D vwCl (xX K r f16 a17 g18 tx) H := hP
    have hD : va_D A (xX K r f16 a17 g18 tx) := hD
    have hI : xI f16 a17 := hw13.1
    have hG : gOK K g18.2 tt := hw13.2.1
    have eE19 : xEk ([1632, 1637], [54], []) f9 a10 g11 f16 a17 g18 := hw13.2.2.1
    have hE : xEk ([1603, 1604, 1605, 1606, 1632, 1637], [52, 53, 54, 55, 56, 57], []) f a g f16 a17 g18 := xEk_tr hE (xEk_w (by decide +kernel) eE19)
    refine lv_aload_n hx hb dX4_read_24 rfl (lv_at hl 0 rfl) ?_
    refine lv_iconst (v := 0) hx hb dX4_read_25 (by decide) ?_
    refine va_put (D := D) (ci := 4) (v := .int 0) (ty := .int) (C := RX4) (T := TX4) (N := 7) hx hb hg inC4 tyX4 tyX4_ok nmX4 hown hK hP hD hS 50 rfl rfl 4 (by decide) (hg _ wt2_69) (fun _ h9 => h9) rfl (by decide +kernel) rfl rfl (Nat.le_of_ble_eq_true rfl) dX4_read_26 (fun H locs hP hD hS => ?_)
    have hP : va_P D vwCl (xX K r (upd f16 1604 0) a17 g18 tx) H := hP
    have hD : va_D A (xX K r (upd f16 1604 0) a17 g18 tx) := hD
    refine k_gen (P := fun z => va_P D vwCl (xX K r z a17 g18 tx) H ∧ va_D A (xX K r z a17 g18 tx) ∧ (xI z a17) ∧ (gOK K g18.2 tt) ∧ (xEk ([1603, 1604, 1605, 1606, 1632, 1637], [52, 53, 54, 55, 56, 57], []) f a g z a17 g18)) (upd f16 1604 0) ⟨hP, hD, (xI_f hI (fI_st hI.1 1604 (kb_any _) (by decide) (by decide))), hG, (xEk_f hE rfl)⟩ (fun f_20 ef_20 hq => ?_)
    obtain ⟨hP, hD, hI, hG, hE⟩ := hq
    refine lv_aload_n hx hb dX4_read_29 rfl (lv_at hl 0 rfl) ?_
    refine lv_iconst (v := 0) hx hb dX4_read_30 (by decide) ?_
    refine va_put (D := D) (ci := 4) (v := .int 0) (ty := .int) (C := RX4) (T := TX4) (N := 7) hx hb hg inC4 tyX4 tyX4_ok nmX4 hown hK hP hD hS 50 rfl rfl 5 (by decide) (hg _ wt2_70) (fun _ h9 => h9) rfl (by decide +kernel) rfl rfl (Nat.le_of_ble_eq_true rfl) dX4_read_31 (fun H locs hP hD hS => ?_)
    have hP : va_P D vwCl (xX K r (upd f_20 1605 0) a17 g18 tx) H := hP
    have hD : va_D A (xX K r (upd f_20 1605 0) a17 g18 tx) := hD
    refine k_gen (P := fun z => va_P D vwCl (xX K r z a17 g18 tx) H ∧ va_D A (xX K r z a17 g18 tx) ∧ (xI z a17) ∧ (gOK K g18.2 tt) ∧ (xEk ([1603, 1604, 1605, 1606, 1632, 1637], [52, 53, 54, 55, 56, 57], []) f a g z a17 g18)) (upd f_20 1605 0) ⟨hP, hD, (xI_f hI (fI_st hI.1 1605 (kb_any _) (by decide) (by decide))), hG, (xEk_f hE rfl)⟩ (fun f_21 ef_21 hq => ?_)
    obtain ⟨hP, hD, hI, hG, hE⟩ := hq
    refine lv_aload_n hx hb dX4_read_34 rfl (lv_at hl 0 rfl) ?_
    refine lv_iload_n hx hb dX4_read_35 rfl (lv_at hl 3 rfl) ?_
    refine va_put (D := D) (ci := 4) (v := .int isO) (ty := .boolean) (C := RX4) (T := TX4) (N := 7) hx hb hg inC4 tyX4 tyX4_ok nmX4 hown hK hP hD hS 50 rfl rfl 6 (by decide) (hg _ wt2_71) (fun _ h9 => h9) rfl (by decide +kernel) (kb_bo (kb_w b1 (by decide) (by decide))) (kb_fit (kb_w b1 (by decide) (by decide))) (Nat.le_of_ble_eq_true rfl) dX4_read_36 (fun H locs hP hD hS => ?_)
    have hP : va_P D vwCl (xX K r (upd f_21 1606 isO) a17 g18 tx) H := hP
    have hD : va_D A (xX K r (upd f_21 1606 isO) a17 g18 tx) := hD
    refine k_gen (P := fun z => va_P D vwCl (xX K r z a17 g18 tx) H ∧ va_D A (xX K r z a17 g18 tx) ∧ (xI z a17) ∧ (gOK K g18.2 tt) ∧ (xEk ([1603, 1604, 1605, 1606, 1632, 1637], [52, 53, 54, 55, 56, 57], []) f a g z a17 g18)) (upd f_21 1606 isO) ⟨hP, hD, (xI_f hI (fI_st hI.1 1606 (kb_any _) (by decide) (by decide))), hG, (xEk_f hE rfl)⟩ (fun f_22 ef_22 hq => ?_)
    obtain ⟨hP, hD, hI, hG, hE⟩ := hq
    obtain ⟨T, hTd⟩ : ∃ T : Nat → Int32, T = tkT (a 93) S := ⟨_, rfl⟩
    obtain ⟨pl, hpd⟩ : ∃ pl : Nat → Int32, pl = pcT (a 93) S := ⟨_, rfl⟩
    have h56 : a17 56 = a10 56 ∧ a17 57 = a10 57 := ⟨(eE19.2.1 56 rfl), (eE19.2.1 57 rfl)⟩
    have hN4 := hN2
    have hk0 : xQ f_22 a17 N false T pl := ⟨by rw [((show f_22 1603 = f_21 1603 from by rw [← ef_22]; rfl).trans ((show f_21 1603 = f_20 1603 from by rw [← ef_21]; rfl).trans ((show f_20 1603 = f16 1603 from by rw [← ef_20]; rfl).trans ((eE19.1 1603 rfl).trans ecS.symm))))]; exact hcS, hN2, ((show f_22 1606 = isO from by rw [← ef_22]; rfl)).trans hisO, fun k hk => by rw [h56.1, hTd]; exact hsp.2.2.1 k hk, fun k hk => by rw [h56.2, hpd]; exact hsp.2.2.2 k hk, fun k hk => by rw [hTd]; exact tkT_e hsp.1 hk, fun k => by rw [hTd]; exact tkT_b k⟩
    refine lv_iconst (v := 0) hx hb dX4_read_39 (by decide) ?_
    refine lv_istore (lv' := [(4, .int 0), (0, .ref (r 50)), (1, .ref (r 93)), (2, .int len_), (3, .int isO)]) hx hb dX4_read_40 hl (by decide) rfl (fun ls hl => ?_)
    have lp27 : ∀ (n28 : Nat) (i0 : Nat) (n0 : Nat) (cn : Nat) (so : Nat) (F24 : Nat → Int32) (B25 : Nat → Nat → Int32) (G26 : xG) (H : Heap) (locs : List Loc) (ls : Array Slot) (y23 : Int32), (12 < y23.toInt + (n28 : Int)) → (xI F24 B25) → (gOK K G26.2 tt) → (xEk ([1603, 1604, 1605, 1606, 1632, 1637], [52, 53, 54, 55, 56, 57], []) f a g F24 B25 G26) → (xQ F24 B25 N false T pl) → (kb 0 y23 12) → ((F24 1604).toInt = (i0 : Int)) → (i0 ≤ N) → ((F24 1605).toInt = (n0 : Int) ∧ n0 ≤ 50) → (y23.toInt = (cn : Int) ∧ cn ≤ 12) → ((F24 1632).toInt = (cn : Int)) → (∀ r, pT false T N (12 - cn) i0 n0 r → pT false T N 12 0 0 r) → ((F24 1637).toInt = (so : Int)) → (so ≤ i0) → (rdI false T cn i0 so B25) → va_P D vwCl (xX K r F24 B25 G26 tx) H → va_D A (xX K r F24 B25 G26 tx) → va_S A s.heap H locs → lv_has ls 5 [(4, .int y23), (0, .ref (r 50)), (1, .ref (r 93)), (2, .int len_), (3, .int isO)] → W p l e (rmD 28 0 0) s m ([.ref (r 50), .ref (r 93), .int len_, .int isO] : List Value).toArray below meth c H locs 0 0 (kQi D (tysK K) (fun v (u : xS) => kb (-2147483648) v 2147483647 ∧ xI u.1 u.2.1 ∧ gOK K u.2.2.2 tt ∧ xEk ([1603, 1604, 1605, 1606, 1632, 1637], [52, 53, 54, 55, 56, 57], []) f a g u.1 u.2.1 u.2.2 ∧ (∃ b : Bool, txR false (a 93) S b v ∧ (b = true → ∃ N n sz : Nat, (u.1 1632).toInt = (n : Int) ∧ (u.1 1637).toInt = (sz : Int) ∧ sz ≤ 400 ∧ plT (a 93) S N = S ∧ (∀ i, i < N → plT (a 93) S i < S) ∧ rdF false (tkT (a 93) S) N n sz u.2.1))) (fun u => xX K r u.1 u.2.1 u.2.2 tx) A below ([.ref (r 50), .ref (r 93), .int len_, .int isO] : List Value).toArray s 0 0) (F0 m 42 ls []) := by
      intro n28
      induction n28 with
      | zero =>
        intro i0 n0 cn so F24 B25 G26  H locs ls y23 hmlp27 hI hG hE hk0 b29 hvlp27_0 hvlp27_1 hvlp27_2 hvlp27_3 hvlp27_4 hvlp27_5 hvlp27_6 hvlp27_7 hvlp27_8 hP hD hS hl
        exact (by have h1 := b29.2; have h2 := hmlp27; omega : False).elim
      | succ n28 ihlp27 =>
        intro i0 n0 cn so F24 B25 G26  H locs ls y23 hmlp27 hI hG hE hk0 b29 hvlp27_0 hvlp27_1 hvlp27_2 hvlp27_3 hvlp27_4 hvlp27_5 hvlp27_6 hvlp27_7 hvlp27_8 hP hD hS hl
        obtain ⟨gv30, egv30⟩ : ∃ z : Int32, z = F24 1604 := ⟨_, rfl⟩
        have hg31 : gv30.toInt = ((i0 : Nat) : Int) := by rw [egv30]; exact hvlp27_0
        have b32 : kb 0 gv30 400 := kb_pos hvlp27_1 hN4 hg31
        obtain ⟨z33, ez33⟩ : ∃ z : Int32, z = F24 1605 := ⟨_, rfl⟩
        have hzz33 : z33.toInt = ((n0 : Nat) : Int) := by rw [ez33]; exact hvlp27_2.1
        have b34 : kb 0 z33 50 := ⟨by omega, by have w1 := hvlp27_2.2; omega⟩
        obtain ⟨cC, ecC⟩ : ∃ z : Int32, z = F24 1632 := ⟨_, rfl⟩
        have hcC : cC.toInt = (cn : Int) := by rw [ecC]; exact hvlp27_4
        have xo := hvlp27_5
        obtain ⟨zs35, ezs35⟩ : ∃ z : Int32, z = F24 1637 := ⟨_, rfl⟩
        have hzzs35 : zs35.toInt = ((so : Nat) : Int) := by rw [ezs35]; exact hvlp27_6
        have hsr := hvlp27_7
        have hrI := hvlp27_8
        refine lv_iload hx hb dX4_read_42 (lv_at hl 0 rfl) ?_
        refine lv_bipush (v := 12) hx hb dX4_read_44 (by decide) ?_
        refine lv_icmp_ge (tgt := 159) hx hb dX4_read_46 (by decide) (fun c36 => ?_) (fun c36 => ?_)
        · have h37 := (kc_le c36)
          have b38 : kb 12 y23 12 := kr_le2 h37 kc_12 b29
          refine lv_aload_n hx hb dX4_read_159 rfl (lv_at hl 1 rfl) ?_
          refine kIG.callW (As := []) (rest := []) ⟨hx, hb, hml, hown, hg⟩ (y_placeInHand l r F24 B25 G26 tx tt hT hI hG   N (i0) false T pl hk0 (by rw [egv30.symm]; exact hg31) hvlp27_1) (cwV 0 hg (kgV wt4_46 wt4_48 wp2_4 wt1_7 wt4_49) rfl rfl rfl (by decide +kernel) ⟨by decide, by decide⟩) hV hK hP hD hS hA (50) 4 rfl rfl rfl hl.1 rfl (Nat.le_of_ble_eq_true rfl) dX4_read_160 ⟨Nat.le_refl _, Nat.le_refl _⟩ (fun v40 u41 H locs hw39 hP hD hS => ?_)
          have hP : va_P D vwCl (xX K r F24 B25 G26 tx) H := hP
          have hD : va_D A (xX K r F24 B25 G26 tx) := hD
          exact kI_ret (v := v40) hx hb hr hlocks rfl hK hS dX4_read_163 (F24, B25, G26) hP hD ⟨(kb_any v40), hI, hG, hE, ⟨false, ⟨N, i0, hsp.1, hsp.2.1, (by rw [← hTd]; exact xo _ (by rw [show 12 - cn = 0 by have w1 := hvlp27_3; have w3 : (12 : Int32).toInt = 12 := (by decide +kernel); first | (have w2 := kc_le c36; omega) | (have w2 := kc_nlt c36; omega)]; exact rfl)), (hw39.2.trans (congrFun hpd _))⟩, fun q => absurd q (by decide)⟩⟩
        · have h42 := (kc_nle c36)
          have b43 : kb 0 y23 11 := kr_lt1 h42 b29 kc_12 (by decide)
          have hc12 : cn < 12 := by have w1 := hvlp27_3; have w3 : (12 : Int32).toInt = 12 := (by decide +kernel); first | (have w2 := kc_nle c36; omega) | (have w2 := kc_lt c36; omega)
          refine lv_iload_n hx hb dX4_read_49 rfl (lv_at hl 4 rfl) ?_
          refine lv_if_eq (tgt := 63) hx hb dX4_read_50 (by decide) (fun c44 => ?_) (fun c44 => ?_)
          · refine lv_aload_n hx hb dX4_read_63 rfl (lv_at hl 1 rfl) ?_
            refine kIG.callW (As := []) (rest := []) ⟨hx, hb, hml, hown, hg⟩ (y_readRule l r F24 B25 G26 tx tt hT hI hG   N (i0) (n0) (so) cn false T pl hk0 (by rw [egv30.symm]; exact hg31) hvlp27_1 ⟨(by rw [ez33.symm]; exact hzz33), hvlp27_2.2⟩ ⟨(by show (F24 1637).toInt = ((so : Nat) : Int); rw [ezs35.symm]; exact hzzs35), hsr⟩ (by rw [ecC.symm]; exact hcC) (hc12) rfl) (cwV 0 hg (kgV wt4_42 wt4_44 wp2_3 wt1_7 wt4_45) rfl rfl rfl (by decide +kernel) ⟨by decide, by decide⟩) hV hK hP hD hS hA (50) 4 rfl rfl rfl hl.1 rfl (Nat.le_of_ble_eq_true rfl) dX4_read_64 ⟨Nat.le_refl _, Nat.le_refl _⟩ (fun v46 u47 H locs hw45 hP hD hS => ?_)
            obtain ⟨f48, a49, g50⟩ := u47
            have hP : va_P D vwCl (xX K r f48 a49 g50 tx) H := hP
            have hD : va_D A (xX K r f48 a49 g50 tx) := hD
            have hI : xI f48 a49 := hw45.2.1
            have hG : gOK K g50.2 tt := hw45.2.2.1
            have eE51 : xEk ([1604, 1605, 1632, 1637], [52, 53, 54, 55], []) F24 B25 G26 f48 a49 g50 := hw45.2.2.2.1
            have hE : xEk ([1603, 1604, 1605, 1606, 1632, 1637], [52, 53, 54, 55, 56, 57], []) f a g f48 a49 g50 := xEk_tr hE (xEk_w (by decide +kernel) eE51)
            have hk0 : xQ f48 a49 N false T pl := xQ_c hk0 (eE51.1 1603 rfl) (eE51.1 1606 rfl) ⟨eE51.2.1 56 rfl, eE51.2.1 57 rfl⟩
            obtain ⟨ik52, nk52, hgk52, hlek52, hNk52, hck52⟩ := hw45.2.2.2.2
            rcases hck52 with ⟨hvk52, h3k52, h4k52, hGk52, hdk52⟩ | ⟨hvk52, hGk52⟩
            · obtain ⟨sk52, hzk52, hslk52⟩ := hd_sz hdk52 hsr
              obtain ⟨zs53, ezs53⟩ : ∃ z : Int32, z = f48 1637 := ⟨_, rfl⟩
              have hzzs53 : zs53.toInt = ((sk52 : Nat) : Int) := by rw [ezs53]; exact hzk52
              refine k_top (z := 1) hvk52 ?_
              obtain ⟨gv54, egv54⟩ : ∃ z : Int32, z = f48 1604 := ⟨_, rfl⟩
              have hg55 : gv54.toInt = ((ik52 : Nat) : Int) := by rw [egv54]; exact hgk52
              have b56 : kb 0 gv54 400 := kb_pos hNk52 hN4 hg55
              obtain ⟨z57, ez57⟩ : ∃ z : Int32, z = f48 1605 := ⟨_, rfl⟩
              have hzz57 : z57.toInt = ((nk52 : Nat) : Int) := by rw [ez57]; exact h3k52.1
              have b58 : kb 0 z57 50 := ⟨by omega, by have w1 := h3k52.2; omega⟩
              obtain ⟨z59, ez59⟩ : ∃ z : Int32, z = f48 1632 := ⟨_, rfl⟩
              have hCz59 : z59.toInt = ((cn + 1 : Nat) : Int) := by rw [ez59]; exact h4k52
              refine lv_if_ne (tgt := 75) hx hb dX4_read_67 (by decide) (fun c60 => ?_) (fun c60 => ?_)
              · refine lv_aload_n hx hb dX4_read_75 rfl (lv_at hl 1 rfl) ?_
                refine kIG.callW (As := []) (rest := []) ⟨hx, hb, hml, hown, hg⟩ (y_inHand l r f48 a49 g50 tx tt hT hI hG   N (ik52) false T pl hk0 (by rw [egv54.symm]; exact hg55) hNk52) (cwV 0 hg (kgV wt3_238 wt4_0 wp1_12 wt1_7 wt4_1) rfl rfl rfl (by decide +kernel) ⟨by decide, by decide⟩) hV hK hP hD hS hA (50) 4 rfl rfl rfl hl.1 rfl (Nat.le_of_ble_eq_true rfl) dX4_read_76 ⟨Nat.le_refl _, Nat.le_refl _⟩ (fun v62 u63 H locs hw61 hP hD hS => ?_)
                have hP : va_P D vwCl (xX K r f48 a49 g50 tx) H := hP
                have hD : va_D A (xX K r f48 a49 g50 tx) := hD
                have b64 : kb 0 v62 4000 := kb_eq hw61.2 (hk0.2.2.2.2.2.2 (ik52))
                refine lv_sipush (v := 2003) hx hb dX4_read_79 (by decide) ?_
                refine lv_icmp_ne (tgt := 108) hx hb dX4_read_82 (by decide) (fun c65 => ?_) (fun c65 => ?_)
                · refine lv_aload_n hx hb dX4_read_108 rfl (lv_at hl 1 rfl) ?_
                  refine va_get (D := D) (ci := 4) (v := .ref (r 51)) (C := RX4) (T := TX4) (N := 7) hx hb hg inC4 hown hK hP 50 rfl rfl 0 (by decide) (hg _ wt2_64) (fun _ h9 => h9) rfl dX4_read_109 ?_
                  refine lv_iconst (v := 2) hx hb dX4_read_112 (by decide) ?_
                  refine kVG.callW (As := [.int 2]) (rest := []) ⟨hx, hb, hml, hown, hg⟩ (y_close l r f48 a49 g50 tx tt hT hI hG 2 (kb_w kc_2 (by decide) (by decide)) (cn + 1) (sk52) (by show (f48 1632).toInt = ((cn + 1 : Nat) : Int); rw [ez59.symm]; exact hCz59) ⟨Nat.le_add_left 1 cn, by omega⟩ (by show (f48 1637).toInt = ((sk52 : Nat) : Int); rw [ezs53.symm]; exact hzzs53)) (cwV 1 hg (kgV wt4_30 wt4_31 wt4_32 wt1_8 wt4_33) rfl rfl rfl (by decide +kernel) ⟨by decide, by decide⟩) hV hK hP hD hS hA (51) 10 rfl rfl rfl hl.1 rfl (Nat.le_of_ble_eq_true rfl) dX4_read_113 ⟨Nat.le_refl _, Nat.le_refl _⟩ (fun u68 H locs hw66 hP hD hS => ?_)
                  obtain ⟨f69, a70, g71⟩ := u68
                  have hP : va_P D vwCl (xX K r f69 a70 g71 tx) H := hP
                  have hD : va_D A (xX K r f69 a70 g71 tx) := hD
                  have hI : xI f69 a70 := hw66.1
                  have hG : gOK K g71.2 tt := hw66.2.1
                  have eE72 : xEk ([], [54], []) f48 a49 g50 f69 a70 g71 := hw66.2.2.1
                  have hE : xEk ([1603, 1604, 1605, 1606, 1632, 1637], [52, 53, 54, 55, 56, 57], []) f a g f69 a70 g71 := xEk_tr hE (xEk_w (by decide +kernel) eE72)
                  have hk0 : xQ f69 a70 N false T pl := xQ_c hk0 (eE72.1 1603 rfl) (eE72.1 1606 rfl) ⟨eE72.2.1 56 rfl, eE72.2.1 57 rfl⟩
                  have hcl73 : (a70 54 (3 * cn + 3)).toInt = ((sk52 : Nat) : Int) ∧ ∀ p, ¬ p = 3 * cn + 3 → a70 54 p = a49 54 p := by
                    have w2 : (2 : Int32).toInt = 2 := (by decide +kernel)
                    have w1 : 3 * (cn + 1 - 1) + (2 : Int32).toInt.toNat + 1 = 3 * cn + 3 := by rw [w2]; omega
                    have w3 := hw66.2.2.2
                    rw [w1] at w3
                    exact w3
                  have hrd := rd_st hrI hdk52 hzk52 (Or.inl ⟨(fun q => c65 (hw61.2.trans q)), rfl, rfl, rfl⟩) (rfl : a49 52 = a49 52) (rfl : a49 53 = a49 53) (rfl : a49 54 = a49 54) (eE72.2.1 52 rfl) (eE72.2.1 53 rfl) (eE72.2.1 55 rfl) hcl73.1 hcl73.2
                  refine lv_aload_n hx hb dX4_read_116 rfl (lv_at hl 1 rfl) ?_
                  refine kIG.callW (As := []) (rest := []) ⟨hx, hb, hml, hown, hg⟩ (y_inHand l r f69 a70 g71 tx tt hT hI hG   N (ik52) false T pl hk0 (by rw [((eE72.1 1604 rfl).trans egv54.symm)]; exact hg55) hNk52) (cwV 0 hg (kgV wt3_238 wt4_0 wp1_12 wt1_7 wt4_1) rfl rfl rfl (by decide +kernel) ⟨by decide, by decide⟩) hV hK hP hD hS hA (50) 4 rfl rfl rfl hl.1 rfl (Nat.le_of_ble_eq_true rfl) dX4_read_117 ⟨Nat.le_refl _, Nat.le_refl _⟩ (fun v75 u76 H locs hw74 hP hD hS => ?_)
                  have hP : va_P D vwCl (xX K r f69 a70 g71 tx) H := hP
                  have hD : va_D A (xX K r f69 a70 g71 tx) := hD
                  have b77 : kb 0 v75 4000 := kb_eq hw74.2 (hk0.2.2.2.2.2.2 (ik52))
                  refine lv_sipush (v := 4000) hx hb dX4_read_120 (by decide) ?_
                  refine lv_icmp_ne (tgt := 128) hx hb dX4_read_123 (by decide) (fun c78 => ?_) (fun c78 => ?_)
                  · have b79 : kb 0 v75 3999 := kr_neh c78 b77 kc_4000 (by decide)
                    refine lv_aload_n hx hb dX4_read_128 rfl (lv_at hl 1 rfl) ?_
                    refine kIG.callW (As := []) (rest := []) ⟨hx, hb, hml, hown, hg⟩ (y_inHand l r f69 a70 g71 tx tt hT hI hG   N (ik52) false T pl hk0 (by rw [((eE72.1 1604 rfl).trans egv54.symm)]; exact hg55) hNk52) (cwV 0 hg (kgV wt3_238 wt4_0 wp1_12 wt1_7 wt4_1) rfl rfl rfl (by decide +kernel) ⟨by decide, by decide⟩) hV hK hP hD hS hA (50) 4 rfl rfl rfl hl.1 rfl (Nat.le_of_ble_eq_true rfl) dX4_read_129 ⟨Nat.le_refl _, Nat.le_refl _⟩ (fun v81 u82 H locs hw80 hP hD hS => ?_)
                    have hP : va_P D vwCl (xX K r f69 a70 g71 tx) H := hP
                    have hD : va_D A (xX K r f69 a70 g71 tx) := hD
                    have b83 : kb 0 v81 4000 := kb_eq hw80.2 (hk0.2.2.2.2.2.2 (ik52))
                    refine lv_sipush (v := 3059) hx hb dX4_read_132 (by decide) ?_
                    refine lv_icmp_eq (tgt := 143) hx hb dX4_read_135 (by decide) (fun c84 => ?_) (fun c84 => ?_)
                    · have b85 : kb 3059 v81 3059 := kb_eq c84 kc_3059
                      refine lv_aload_n hx hb dX4_read_143 rfl (lv_at hl 1 rfl) ?_
                      refine lv_dup hx hb dX4_read_144 rfl ?_
                      have hlt86 : ik52 < N := xQ_lt hk0 (ne_4000 (hw80.2.symm.trans c84) (by decide +kernel))
                      have b87 : kb 0 gv54 399 := kb_pos1 hlt86 hN4 hg55
                      refine va_get (D := D) (ci := 4) (v := .int (f69 1604)) (C := RX4) (T := TX4) (N := 7) hx hb hg inC4 hown hK hP 50 rfl rfl 4 (by decide) (hg _ wt2_69) (fun _ h9 => h9) rfl dX4_read_145 ?_
                      refine k_top (z := gv54) ((eE72.1 1604 rfl).trans egv54.symm) ?_
                      refine lv_iconst (v := 1) hx hb dX4_read_148 (by decide) ?_
                      refine lv_iadd hx hb dX4_read_149 ?_
                      refine lv_topi (fun t88 et88 => ?_)
                      have b89 : kb 1 t88 400 := kb_eq et88 (kb_add b87 kc_1 (by decide) (by decide))
                      have qt88 : t88.toInt = gv54.toInt + 1 := by rw [et88]; exact kt_addc b87 kc_1 (by decide) (by decide)
                      have hg90 : t88.toInt = ((ik52 + 1 : Nat) : Int) := by rw [qt88, hg55]; omega
                      refine va_put (D := D) (ci := 4) (v := .int t88) (ty := .int) (C := RX4) (T := TX4) (N := 7) hx hb hg inC4 tyX4 tyX4_ok nmX4 hown hK hP hD hS 50 rfl rfl 4 (by decide) (hg _ wt2_69) (fun _ h9 => h9) rfl (by decide +kernel) rfl rfl (Nat.le_of_ble_eq_true rfl) dX4_read_150 (fun H locs hP hD hS => ?_)
                      have hP : va_P D vwCl (xX K r (upd f69 1604 t88) a70 g71 tx) H := hP
                      have hD : va_D A (xX K r (upd f69 1604 t88) a70 g71 tx) := hD
                      refine k_gen (P := fun z => va_P D vwCl (xX K r z a70 g71 tx) H ∧ va_D A (xX K r z a70 g71 tx) ∧ (xI z a70) ∧ (gOK K g71.2 tt) ∧ (xEk ([1603, 1604, 1605, 1606, 1632, 1637], [52, 53, 54, 55, 56, 57], []) f a g z a70 g71) ∧ (xQ z a70 N false T pl)) (upd f69 1604 t88) ⟨hP, hD, (xI_f hI (fI_st hI.1 1604 (kb_any _) (by decide) (by decide))), hG, (xEk_f hE rfl), (xQ_f hk0 (by decide) (by decide))⟩ (fun f_91 ef_91 hq => ?_)
                      obtain ⟨hP, hD, hI, hG, hE, hk0⟩ := hq
                      obtain ⟨t92, et92⟩ : ∃ z : Int32, z = y23 + Int32.ofInt 1 := ⟨_, rfl⟩
                      have qt92 : t92.toInt = y23.toInt + 1 := by rw [et92]; exact km_inc b43 (by decide) (by decide)
                      have b93 : kb 1 t92 12 := kb_inc (k := 1) qt92 b43
                      refine lv_iinc (v := t92) (lv' := [(4, .int t92), (0, .ref (r 50)), (1, .ref (r 93)), (2, .int len_), (3, .int isO)]) hx hb dX4_read_153 hl (k := 0) rfl et92.symm (by decide) rfl (fun ls hl => ?_)
                      refine lv_goto (tgt := 42) hx hb dX4_read_156 (by decide) ?_
                      exact ihlp27 (ik52 + 1) (nk52) (cn + 1) (sk52) f_91 a70 g71 _ _ _ t92 (km_up hmlp27 qt92) hI hG hE hk0 (kb_w b93 (by decide) (by decide)) (by rw [(show f_91 1604 = t88 from by rw [← ef_91]; rfl)]; exact hg90) (hlt86) (⟨(by rw [((show f_91 1605 = f69 1605 from by rw [← ef_91]; rfl).trans ((eE72.1 1605 rfl).trans ez57.symm))]; exact hzz57), h3k52.2⟩) (⟨by have w1 := hvlp27_3; omega, hc12⟩) (by rw [((show f_91 1632 = f69 1632 from by rw [← ef_91]; rfl).trans ((eE72.1 1632 rfl).trans ez59.symm))]; exact hCz59) (fun r h => xo r (c12 hc12 (pT_s (hGk52 _ (pi_12n (fun q => c65 (hw61.2.trans q)))) (Or.inl ⟨(hw80.2.symm.trans c84), h⟩)))) (by show (f_91 1637).toInt = ((sk52 : Nat) : Int); rw [((show f_91 1637 = f69 1637 from by rw [← ef_91]; rfl).trans ((eE72.1 1637 rfl).trans ezs53.symm))]; exact hzzs53) (by have w1 := hrd.1; omega) (rd_nx (so := so) hrd.2 hcl73.1 (hw80.2.symm.trans c84)) hP hD hS (lv_sub hl [0, 1, 2, 3, 4] rfl)
                    · refine lv_aload_n hx hb dX4_read_138 rfl (lv_at hl 1 rfl) ?_
                      refine kIG.callW (As := []) (rest := []) ⟨hx, hb, hml, hown, hg⟩ (y_placeInHand l r f69 a70 g71 tx tt hT hI hG   N (ik52) false T pl hk0 (by rw [((eE72.1 1604 rfl).trans egv54.symm)]; exact hg55) hNk52) (cwV 0 hg (kgV wt4_46 wt4_48 wp2_4 wt1_7 wt4_49) rfl rfl rfl (by decide +kernel) ⟨by decide, by decide⟩) hV hK hP hD hS hA (50) 4 rfl rfl rfl hl.1 rfl (Nat.le_of_ble_eq_true rfl) dX4_read_139 ⟨Nat.le_refl _, Nat.le_refl _⟩ (fun v95 u96 H locs hw94 hP hD hS => ?_)
                      have hP : va_P D vwCl (xX K r f69 a70 g71 tx) H := hP
                      have hD : va_D A (xX K r f69 a70 g71 tx) := hD
                      exact kI_ret (v := v95) hx hb hr hlocks rfl hK hS dX4_read_142 (f69, a70, g71) hP hD ⟨(kb_any v95), hI, hG, hE, ⟨false, ⟨N, ik52, hsp.1, hsp.2.1, (by rw [← hTd]; exact xo _ (c12 hc12 (pT_s (hGk52 _ (pi_12n (fun q => c65 (hw61.2.trans q)))) (Or.inr (Or.inl ⟨(fun q => c84 (hw80.2.trans q)), xQ_lt hk0 (fun q => c78 (hw74.2.trans q)), rfl⟩))))), (hw94.2.trans (congrFun hpd _))⟩, fun q => absurd q (by decide)⟩⟩
                  · have b97 : kb 4000 v75 4000 := kb_eq c78 kc_4000
                    refine lv_iconst (v := (-1)) hx hb dX4_read_126 (by decide) ?_
                    exact kI_ret (v := (-1)) hx hb hr hlocks rfl hK hS dX4_read_127 (f69, a70, g71) hP hD ⟨(kb_w kc_m1 (by decide) (by decide)), hI, hG, hE, ⟨true, ⟨N, ik52, hsp.1, hsp.2.1, (by rw [← hTd]; exact xo _ (c12 hc12 (pT_s (hGk52 _ (pi_12n (fun q => c65 (hw61.2.trans q)))) (Or.inr (Or.inr ⟨(fun q => absurd ((hw74.2.symm.trans c78).symm.trans q) (by decide +kernel)), tk_end hsp.2.1 (by rw [← hTd]; exact (hw74.2.symm.trans c78)), rfl⟩))))), rfl⟩, fun _ => ⟨N, cn + 1, sk52, (by show (f69 1632).toInt = ((cn + 1 : Nat) : Int); rw [((eE72.1 1632 rfl).trans ez59.symm)]; exact hCz59), (by show (f69 1637).toInt = ((sk52 : Nat) : Int); rw [((eE72.1 1637 rfl).trans ezs53.symm)]; exact hzzs53), (by have w1 := hrd.1; have w2 := hNk52; omega), hsp.1, hsp.2.1, (by rw [← hTd]; exact rd_fin (so := so) hrd.2 hc12 (by have w1 := tk_end (j := ik52) hsp.2.1 (by rw [← hTd]; exact (hw74.2.symm.trans c78)); have w2 := hNk52; omega))⟩⟩⟩
                · have b98 : kb 2003 v62 2003 := kb_eq c65 kc_2003
                  refine lv_aload_n hx hb dX4_read_85 rfl (lv_at hl 1 rfl) ?_
                  refine lv_dup hx hb dX4_read_86 rfl ?_
                  have hlt99 : ik52 < N := xQ_lt hk0 (ne_4000 (hw61.2.symm.trans c65) (by decide +kernel))
                  have b100 : kb 0 gv54 399 := kb_pos1 hlt99 hN4 hg55
                  refine va_get (D := D) (ci := 4) (v := .int (f48 1604)) (C := RX4) (T := TX4) (N := 7) hx hb hg inC4 hown hK hP 50 rfl rfl 4 (by decide) (hg _ wt2_69) (fun _ h9 => h9) rfl dX4_read_87 ?_
                  refine k_top (z := gv54) egv54.symm ?_
                  refine lv_iconst (v := 1) hx hb dX4_read_90 (by decide) ?_
                  refine lv_iadd hx hb dX4_read_91 ?_
                  refine lv_topi (fun t101 et101 => ?_)
                  have b102 : kb 1 t101 400 := kb_eq et101 (kb_add b100 kc_1 (by decide) (by decide))
                  have qt101 : t101.toInt = gv54.toInt + 1 := by rw [et101]; exact kt_addc b100 kc_1 (by decide) (by decide)
                  have hg103 : t101.toInt = ((ik52 + 1 : Nat) : Int) := by rw [qt101, hg55]; omega
                  refine va_put (D := D) (ci := 4) (v := .int t101) (ty := .int) (C := RX4) (T := TX4) (N := 7) hx hb hg inC4 tyX4 tyX4_ok nmX4 hown hK hP hD hS 50 rfl rfl 4 (by decide) (hg _ wt2_69) (fun _ h9 => h9) rfl (by decide +kernel) rfl rfl (Nat.le_of_ble_eq_true rfl) dX4_read_92 (fun H locs hP hD hS => ?_)
                  have hP : va_P D vwCl (xX K r (upd f48 1604 t101) a49 g50 tx) H := hP
                  have hD : va_D A (xX K r (upd f48 1604 t101) a49 g50 tx) := hD
                  refine k_gen (P := fun z => va_P D vwCl (xX K r z a49 g50 tx) H ∧ va_D A (xX K r z a49 g50 tx) ∧ (xI z a49) ∧ (gOK K g50.2 tt) ∧ (xEk ([1603, 1604, 1605, 1606, 1632, 1637], [52, 53, 54, 55, 56, 57], []) f a g z a49 g50) ∧ (xQ z a49 N false T pl)) (upd f48 1604 t101) ⟨hP, hD, (xI_f hI (fI_st hI.1 1604 (kb_any _) (by decide) (by decide))), hG, (xEk_f hE rfl), (xQ_f hk0 (by decide) (by decide))⟩ (fun f_104 ef_104 hq => ?_)
                  obtain ⟨hP, hD, hI, hG, hE, hk0⟩ := hq
                  refine lv_aload_n hx hb dX4_read_95 rfl (lv_at hl 1 rfl) ?_
                  refine lv_iconst (v := 0) hx hb dX4_read_96 (by decide) ?_
                  refine kIG.callW (As := [.int 0]) (rest := []) ⟨hx, hb, hml, hown, hg⟩ ((y_allTest 8) l r f_104 a49 g50 tx tt hT hI hG 0 (kb_w kc_0 (by decide) (by decide)) N (ik52 + 1) (nk52) (sk52) false T pl hk0 (by rw [(show f_104 1604 = t101 from by rw [← ef_104]; rfl)]; exact hg103) hlt99 ⟨(by rw [((show f_104 1605 = f48 1605 from by rw [← ef_104]; rfl).trans ez57.symm)]; exact hzz57), h3k52.2⟩ ⟨(by show (f_104 1637).toInt = ((sk52 : Nat) : Int); rw [((show f_104 1637 = f48 1637 from by rw [← ef_104]; rfl).trans ezs53.symm)]; exact hzzs53), (by omega)⟩ (by decide +kernel)) (cwV 1 hg (kgV wt4_50 wt4_52 wp2_5 wt1_7 wt4_53) rfl rfl rfl (by decide +kernel) ⟨by decide, by decide⟩) hV hK hP hD hS hA (50) 4 rfl rfl rfl hl.1 rfl (Nat.le_of_ble_eq_true rfl) dX4_read_97 ⟨Nat.le_refl _, Nat.le_refl _⟩ (fun v106 u107 H locs hw105 hP hD hS => ?_)
                  obtain ⟨f108, a109, g110⟩ := u107
                  have hP : va_P D vwCl (xX K r f108 a109 g110 tx) H := hP
                  have hD : va_D A (xX K r f108 a109 g110 tx) := hD
                  have hI : xI f108 a109 := hw105.2.1
                  have hG : gOK K g110.2 tt := hw105.2.2.1
                  have eE111 : xEk ([1604, 1605, 1637], [55], []) f_104 a49 g50 f108 a109 g110 := hw105.2.2.2.1
                  have hE : xEk ([1603, 1604, 1605, 1606, 1632, 1637], [52, 53, 54, 55, 56, 57], []) f a g f108 a109 g110 := xEk_tr hE (xEk_w (by decide +kernel) eE111)
                  have hk0 : xQ f108 a109 N false T pl := xQ_c hk0 (eE111.1 1603 rfl) (eE111.1 1606 rfl) ⟨eE111.2.1 56 rfl, eE111.2.1 57 rfl⟩
                  obtain ⟨ik112, nk112, hgk112, hlek112, hNk112, hck112⟩ := hw105.2.2.2.2
                  rcases hck112 with ⟨hvk112, h3k112, hltk112, hGk112, hcdk112⟩ | ⟨hvk112, hGk112⟩
                  · refine k_top (z := 1) hvk112 ?_
                    obtain ⟨gv113, egv113⟩ : ∃ z : Int32, z = f108 1604 := ⟨_, rfl⟩
                    have hg114 : gv113.toInt = ((ik112 : Nat) : Int) := by rw [egv113]; exact hgk112
                    have b115 : kb 0 gv113 400 := kb_pos hNk112 hN4 hg114
                    obtain ⟨z116, ez116⟩ : ∃ z : Int32, z = f108 1605 := ⟨_, rfl⟩
                    have hzz116 : z116.toInt = ((nk112 : Nat) : Int) := by rw [ez116]; exact h3k112.1
                    have b117 : kb 0 z116 50 := ⟨by omega, by have w1 := h3k112.2; omega⟩
                    obtain ⟨sk112, wk112, hzk112, hlk112, hqk112, hek112, hrk112⟩ := hcdk112
                    obtain ⟨zs118, ezs118⟩ : ∃ z : Int32, z = f108 1637 := ⟨_, rfl⟩
                    have hzzs118 : zs118.toInt = ((sk112 : Nat) : Int) := by rw [ezs118]; exact hzk112
                    refine lv_if_ne (tgt := 108) hx hb dX4_read_100 (by decide) (fun c119 => ?_) (fun c119 => ?_)
                    · refine lv_aload_n hx hb dX4_read_108 rfl (lv_at hl 1 rfl) ?_
                      refine va_get (D := D) (ci := 4) (v := .ref (r 51)) (C := RX4) (T := TX4) (N := 7) hx hb hg inC4 hown hK hP 50 rfl rfl 0 (by decide) (hg _ wt2_64) (fun _ h9 => h9) rfl dX4_read_109 ?_
                      refine lv_iconst (v := 2) hx hb dX4_read_112 (by decide) ?_
                      refine kVG.callW (As := [.int 2]) (rest := []) ⟨hx, hb, hml, hown, hg⟩ (y_close l r f108 a109 g110 tx tt hT hI hG 2 (kb_w kc_2 (by decide) (by decide)) (cn + 1) (sk112) (by show (f108 1632).toInt = ((cn + 1 : Nat) : Int); rw [((eE111.1 1632 rfl).trans ((show f_104 1632 = f48 1632 from by rw [← ef_104]; rfl).trans ez59.symm))]; exact hCz59) ⟨Nat.le_add_left 1 cn, by omega⟩ (by show (f108 1637).toInt = ((sk112 : Nat) : Int); rw [ezs118.symm]; exact hzzs118)) (cwV 1 hg (kgV wt4_30 wt4_31 wt4_32 wt1_8 wt4_33) rfl rfl rfl (by decide +kernel) ⟨by decide, by decide⟩) hV hK hP hD hS hA (51) 10 rfl rfl rfl hl.1 rfl (Nat.le_of_ble_eq_true rfl) dX4_read_113 ⟨Nat.le_refl _, Nat.le_refl _⟩ (fun u122 H locs hw120 hP hD hS => ?_)
                      obtain ⟨f123, a124, g125⟩ := u122
                      have hP : va_P D vwCl (xX K r f123 a124 g125 tx) H := hP
                      have hD : va_D A (xX K r f123 a124 g125 tx) := hD
                      have hI : xI f123 a124 := hw120.1
                      have hG : gOK K g125.2 tt := hw120.2.1
                      have eE126 : xEk ([], [54], []) f108 a109 g110 f123 a124 g125 := hw120.2.2.1
                      have hE : xEk ([1603, 1604, 1605, 1606, 1632, 1637], [52, 53, 54, 55, 56, 57], []) f a g f123 a124 g125 := xEk_tr hE (xEk_w (by decide +kernel) eE126)
                      have hk0 : xQ f123 a124 N false T pl := xQ_c hk0 (eE126.1 1603 rfl) (eE126.1 1606 rfl) ⟨eE126.2.1 56 rfl, eE126.2.1 57 rfl⟩
                      have hcl127 : (a124 54 (3 * cn + 3)).toInt = ((sk112 : Nat) : Int) ∧ ∀ p, ¬ p = 3 * cn + 3 → a124 54 p = a109 54 p := by
                        have w2 : (2 : Int32).toInt = 2 := (by decide +kernel)
                        have w1 : 3 * (cn + 1 - 1) + (2 : Int32).toInt.toNat + 1 = 3 * cn + 3 := by rw [w2]; omega
                        have w3 := hw120.2.2.2
                        rw [w1] at w3
                        exact w3
                      have hrd := rd_st hrI hdk52 hzk52 (Or.inr ⟨(hw61.2.symm.trans c65), (by have w1 := hlk112; omega), hqk112, wk112, hek112, rn_w hrk112 (by decide)⟩) (eE111.2.1 52 rfl) (eE111.2.1 53 rfl) (eE111.2.1 54 rfl) (eE126.2.1 52 rfl) (eE126.2.1 53 rfl) (eE126.2.1 55 rfl) hcl127.1 hcl127.2
                      refine lv_aload_n hx hb dX4_read_116 rfl (lv_at hl 1 rfl) ?_
                      refine kIG.callW (As := []) (rest := []) ⟨hx, hb, hml, hown, hg⟩ (y_inHand l r f123 a124 g125 tx tt hT hI hG   N (ik112) false T pl hk0 (by rw [((eE126.1 1604 rfl).trans egv113.symm)]; exact hg114) hNk112) (cwV 0 hg (kgV wt3_238 wt4_0 wp1_12 wt1_7 wt4_1) rfl rfl rfl (by decide +kernel) ⟨by decide, by decide⟩) hV hK hP hD hS hA (50) 4 rfl rfl rfl hl.1 rfl (Nat.le_of_ble_eq_true rfl) dX4_read_117 ⟨Nat.le_refl _, Nat.le_refl _⟩ (fun v129 u130 H locs hw128 hP hD hS => ?_)
                      have hP : va_P D vwCl (xX K r f123 a124 g125 tx) H := hP
                      have hD : va_D A (xX K r f123 a124 g125 tx) := hD
                      have b131 : kb 0 v129 4000 := kb_eq hw128.2 (hk0.2.2.2.2.2.2 (ik112))
                      refine lv_sipush (v := 4000) hx hb dX4_read_120 (by decide) ?_
                      refine lv_icmp_ne (tgt := 128) hx hb dX4_read_123 (by decide) (fun c132 => ?_) (fun c132 => ?_)
                      · have b133 : kb 0 v129 3999 := kr_neh c132 b131 kc_4000 (by decide)
                        refine lv_aload_n hx hb dX4_read_128 rfl (lv_at hl 1 rfl) ?_
                        refine kIG.callW (As := []) (rest := []) ⟨hx, hb, hml, hown, hg⟩ (y_inHand l r f123 a124 g125 tx tt hT hI hG   N (ik112) false T pl hk0 (by rw [((eE126.1 1604 rfl).trans egv113.symm)]; exact hg114) hNk112) (cwV 0 hg (kgV wt3_238 wt4_0 wp1_12 wt1_7 wt4_1) rfl rfl rfl (by decide +kernel) ⟨by decide, by decide⟩) hV hK hP hD hS hA (50) 4 rfl rfl rfl hl.1 rfl (Nat.le_of_ble_eq_true rfl) dX4_read_129 ⟨Nat.le_refl _, Nat.le_refl _⟩ (fun v135 u136 H locs hw134 hP hD hS => ?_)
                        have hP : va_P D vwCl (xX K r f123 a124 g125 tx) H := hP
                        have hD : va_D A (xX K r f123 a124 g125 tx) := hD
                        have b137 : kb 0 v135 4000 := kb_eq hw134.2 (hk0.2.2.2.2.2.2 (ik112))
                        refine lv_sipush (v := 3059) hx hb dX4_read_132 (by decide) ?_
                        refine lv_icmp_eq (tgt := 143) hx hb dX4_read_135 (by decide) (fun c138 => ?_) (fun c138 => ?_)
                        · have b139 : kb 3059 v135 3059 := kb_eq c138 kc_3059
                          refine lv_aload_n hx hb dX4_read_143 rfl (lv_at hl 1 rfl) ?_
                          refine lv_dup hx hb dX4_read_144 rfl ?_
                          have hlt140 : ik112 < N := xQ_lt hk0 (ne_4000 (hw134.2.symm.trans c138) (by decide +kernel))
                          have b141 : kb 0 gv113 399 := kb_pos1 hlt140 hN4 hg114
                          refine va_get (D := D) (ci := 4) (v := .int (f123 1604)) (C := RX4) (T := TX4) (N := 7) hx hb hg inC4 hown hK hP 50 rfl rfl 4 (by decide) (hg _ wt2_69) (fun _ h9 => h9) rfl dX4_read_145 ?_
                          refine k_top (z := gv113) ((eE126.1 1604 rfl).trans egv113.symm) ?_
                          refine lv_iconst (v := 1) hx hb dX4_read_148 (by decide) ?_
                          refine lv_iadd hx hb dX4_read_149 ?_
                          refine lv_topi (fun t142 et142 => ?_)
                          have b143 : kb 1 t142 400 := kb_eq et142 (kb_add b141 kc_1 (by decide) (by decide))
                          have qt142 : t142.toInt = gv113.toInt + 1 := by rw [et142]; exact kt_addc b141 kc_1 (by decide) (by decide)
                          have hg144 : t142.toInt = ((ik112 + 1 : Nat) : Int) := by rw [qt142, hg114]; omega
                          refine va_put (D := D) (ci := 4) (v := .int t142) (ty := .int) (C := RX4) (T := TX4) (N := 7) hx hb hg inC4 tyX4 tyX4_ok nmX4 hown hK hP hD hS 50 rfl rfl 4 (by decide) (hg _ wt2_69) (fun _ h9 => h9) rfl (by decide +kernel) rfl rfl (Nat.le_of_ble_eq_true rfl) dX4_read_150 (fun H locs hP hD hS => ?_)
                          have hP : va_P D vwCl (xX K r (upd f123 1604 t142) a124 g125 tx) H := hP
                          have hD : va_D A (xX K r (upd f123 1604 t142) a124 g125 tx) := hD
                          refine k_gen (P := fun z => va_P D vwCl (xX K r z a124 g125 tx) H ∧ va_D A (xX K r z a124 g125 tx) ∧ (xI z a124) ∧ (gOK K g125.2 tt) ∧ (xEk ([1603, 1604, 1605, 1606, 1632, 1637], [52, 53, 54, 55, 56, 57], []) f a g z a124 g125) ∧ (xQ z a124 N false T pl)) (upd f123 1604 t142) ⟨hP, hD, (xI_f hI (fI_st hI.1 1604 (kb_any _) (by decide) (by decide))), hG, (xEk_f hE rfl), (xQ_f hk0 (by decide) (by decide))⟩ (fun f_145 ef_145 hq => ?_)
                          obtain ⟨hP, hD, hI, hG, hE, hk0⟩ := hq
                          obtain ⟨t146, et146⟩ : ∃ z : Int32, z = y23 + Int32.ofInt 1 := ⟨_, rfl⟩
                          have qt146 : t146.toInt = y23.toInt + 1 := by rw [et146]; exact km_inc b43 (by decide) (by decide)
                          have b147 : kb 1 t146 12 := kb_inc (k := 1) qt146 b43
                          refine lv_iinc (v := t146) (lv' := [(4, .int t146), (0, .ref (r 50)), (1, .ref (r 93)), (2, .int len_), (3, .int isO)]) hx hb dX4_read_153 hl (k := 0) rfl et146.symm (by decide) rfl (fun ls hl => ?_)
                          refine lv_goto (tgt := 42) hx hb dX4_read_156 (by decide) ?_
                          exact ihlp27 (ik112 + 1) (nk112) (cn + 1) (sk112) f_145 a124 g125 _ _ _ t146 (km_up hmlp27 qt146) hI hG hE hk0 (kb_w b147 (by decide) (by decide)) (by rw [(show f_145 1604 = t142 from by rw [← ef_145]; rfl)]; exact hg144) (hlt140) (⟨(by rw [((show f_145 1605 = f123 1605 from by rw [← ef_145]; rfl).trans ((eE126.1 1605 rfl).trans ez116.symm))]; exact hzz116), h3k112.2⟩) (⟨by have w1 := hvlp27_3; omega, hc12⟩) (by rw [((show f_145 1632 = f123 1632 from by rw [← ef_145]; rfl).trans ((eE126.1 1632 rfl).trans ((eE111.1 1632 rfl).trans ((show f_104 1632 = f48 1632 from by rw [← ef_104]; rfl).trans ez59.symm))))]; exact hCz59) (fun r h => xo r (c12 hc12 (pT_s (hGk52 _ (pi_12y (hw61.2.symm.trans c65) hGk112)) (Or.inl ⟨(hw134.2.symm.trans c138), h⟩)))) (by show (f_145 1637).toInt = ((sk112 : Nat) : Int); rw [((show f_145 1637 = f123 1637 from by rw [← ef_145]; rfl).trans ((eE126.1 1637 rfl).trans ezs118.symm))]; exact hzzs118) (by have w1 := hrd.1; omega) (rd_nx (so := so) hrd.2 hcl127.1 (hw134.2.symm.trans c138)) hP hD hS (lv_sub hl [0, 1, 2, 3, 4] rfl)
                        · refine lv_aload_n hx hb dX4_read_138 rfl (lv_at hl 1 rfl) ?_
                          refine kIG.callW (As := []) (rest := []) ⟨hx, hb, hml, hown, hg⟩ (y_placeInHand l r f123 a124 g125 tx tt hT hI hG   N (ik112) false T pl hk0 (by rw [((eE126.1 1604 rfl).trans egv113.symm)]; exact hg114) hNk112) (cwV 0 hg (kgV wt4_46 wt4_48 wp2_4 wt1_7 wt4_49) rfl rfl rfl (by decide +kernel) ⟨by decide, by decide⟩) hV hK hP hD hS hA (50) 4 rfl rfl rfl hl.1 rfl (Nat.le_of_ble_eq_true rfl) dX4_read_139 ⟨Nat.le_refl _, Nat.le_refl _⟩ (fun v149 u150 H locs hw148 hP hD hS => ?_)
                          have hP : va_P D vwCl (xX K r f123 a124 g125 tx) H := hP
                          have hD : va_D A (xX K r f123 a124 g125 tx) := hD
                          exact kI_ret (v := v149) hx hb hr hlocks rfl hK hS dX4_read_142 (f123, a124, g125) hP hD ⟨(kb_any v149), hI, hG, hE, ⟨false, ⟨N, ik112, hsp.1, hsp.2.1, (by rw [← hTd]; exact xo _ (c12 hc12 (pT_s (hGk52 _ (pi_12y (hw61.2.symm.trans c65) hGk112)) (Or.inr (Or.inl ⟨(fun q => c138 (hw134.2.trans q)), xQ_lt hk0 (fun q => c132 (hw128.2.trans q)), rfl⟩))))), (hw148.2.trans (congrFun hpd _))⟩, fun q => absurd q (by decide)⟩⟩
                      · have b151 : kb 4000 v129 4000 := kb_eq c132 kc_4000
                        refine lv_iconst (v := (-1)) hx hb dX4_read_126 (by decide) ?_
                        exact kI_ret (v := (-1)) hx hb hr hlocks rfl hK hS dX4_read_127 (f123, a124, g125) hP hD ⟨(kb_w kc_m1 (by decide) (by decide)), hI, hG, hE, ⟨true, ⟨N, ik112, hsp.1, hsp.2.1, (by rw [← hTd]; exact xo _ (c12 hc12 (pT_s (hGk52 _ (pi_12y (hw61.2.symm.trans c65) hGk112)) (Or.inr (Or.inr ⟨(fun q => absurd ((hw128.2.symm.trans c132).symm.trans q) (by decide +kernel)), tk_end hsp.2.1 (by rw [← hTd]; exact (hw128.2.symm.trans c132)), rfl⟩))))), rfl⟩, fun _ => ⟨N, cn + 1, sk112, (by show (f123 1632).toInt = ((cn + 1 : Nat) : Int); rw [((eE126.1 1632 rfl).trans ((eE111.1 1632 rfl).trans ((show f_104 1632 = f48 1632 from by rw [← ef_104]; rfl).trans ez59.symm)))]; exact hCz59), (by show (f123 1637).toInt = ((sk112 : Nat) : Int); rw [((eE126.1 1637 rfl).trans ezs118.symm)]; exact hzzs118), (by have w1 := hrd.1; have w2 := hNk112; omega), hsp.1, hsp.2.1, (by rw [← hTd]; exact rd_fin (so := so) hrd.2 hc12 (by have w1 := tk_end (j := ik112) hsp.2.1 (by rw [← hTd]; exact (hw128.2.symm.trans c132)); have w2 := hNk112; omega))⟩⟩⟩
                    · exact kb_dj c119 kc_1 kc_0 (by decide)
                  · refine k_top (z := 0) hvk112 ?_
                    obtain ⟨gv152, egv152⟩ : ∃ z : Int32, z = f108 1604 := ⟨_, rfl⟩
                    have hg153 : gv152.toInt = ((ik112 : Nat) : Int) := by rw [egv152]; exact hgk112
                    have b154 : kb 0 gv152 400 := kb_pos hNk112 hN4 hg153
                    refine lv_if_ne (tgt := 108) hx hb dX4_read_100 (by decide) (fun c155 => ?_) (fun c155 => ?_)
                    · exact kb_nsame c155 kc_0 kc_0
                    · refine lv_aload_n hx hb dX4_read_103 rfl (lv_at hl 1 rfl) ?_
                      refine kIG.callW (As := []) (rest := []) ⟨hx, hb, hml, hown, hg⟩ (y_placeInHand l r f108 a109 g110 tx tt hT hI hG   N (ik112) false T pl hk0 (by rw [egv152.symm]; exact hg153) hNk112) (cwV 0 hg (kgV wt4_46 wt4_48 wp2_4 wt1_7 wt4_49) rfl rfl rfl (by decide +kernel) ⟨by decide, by decide⟩) hV hK hP hD hS hA (50) 4 rfl rfl rfl hl.1 rfl (Nat.le_of_ble_eq_true rfl) dX4_read_104 ⟨Nat.le_refl _, Nat.le_refl _⟩ (fun v157 u158 H locs hw156 hP hD hS => ?_)
                      have hP : va_P D vwCl (xX K r f108 a109 g110 tx) H := hP
                      have hD : va_D A (xX K r f108 a109 g110 tx) := hD
                      exact kI_ret (v := v157) hx hb hr hlocks rfl hK hS dX4_read_107 (f108, a109, g110) hP hD ⟨(kb_any v157), hI, hG, hE, ⟨false, ⟨N, ik112, hsp.1, hsp.2.1, (by rw [← hTd]; exact xo _ (c12 hc12 (pT_f (hGk52 _ (pi_12y (hw61.2.symm.trans c65) hGk112))))), (hw156.2.trans (congrFun hpd _))⟩, fun q => absurd q (by decide)⟩⟩
              · exact kb_dj c60 kc_1 kc_0 (by decide)
            · refine k_top (z := 0) hvk52 ?_
              obtain ⟨gv159, egv159⟩ : ∃ z : Int32, z = f48 1604 := ⟨_, rfl⟩
              have hg160 : gv159.toInt = ((ik52 : Nat) : Int) := by rw [egv159]; exact hgk52
              have b161 : kb 0 gv159 400 := kb_pos hNk52 hN4 hg160
              refine lv_if_ne (tgt := 75) hx hb dX4_read_67 (by decide) (fun c162 => ?_) (fun c162 => ?_)
              · exact kb_nsame c162 kc_0 kc_0
              · refine lv_aload_n hx hb dX4_read_70 rfl (lv_at hl 1 rfl) ?_
                refine kIG.callW (As := []) (rest := []) ⟨hx, hb, hml, hown, hg⟩ (y_placeInHand l r f48 a49 g50 tx tt hT hI hG   N (ik52) false T pl hk0 (by rw [egv159.symm]; exact hg160) hNk52) (cwV 0 hg (kgV wt4_46 wt4_48 wp2_4 wt1_7 wt4_49) rfl rfl rfl (by decide +kernel) ⟨by decide, by decide⟩) hV hK hP hD hS hA (50) 4 rfl rfl rfl hl.1 rfl (Nat.le_of_ble_eq_true rfl) dX4_read_71 ⟨Nat.le_refl _, Nat.le_refl _⟩ (fun v164 u165 H locs hw163 hP hD hS => ?_)
                have hP : va_P D vwCl (xX K r f48 a49 g50 tx) H := hP
                have hD : va_D A (xX K r f48 a49 g50 tx) := hD
                exact kI_ret (v := v164) hx hb hr hlocks rfl hK hS dX4_read_74 (f48, a49, g50) hP hD ⟨(kb_any v164), hI, hG, hE, ⟨false, ⟨N, ik52, hsp.1, hsp.2.1, (by rw [← hTd]; exact xo _ (c12 hc12 (pT_f hGk52))), (hw163.2.trans (congrFun hpd _))⟩, fun q => absurd q (by decide)⟩⟩
          · exact kb_nsame c44 b1 kc_0
    exact lp27 (13) (0) (0) 0 (0) f_22 a17 g18 _ _ _ 0 (by have h1 := (kc_0); unfold kb at h1; omega) hI hG hE hk0 (kb_w kc_0 (by decide) (by decide)) (by rw [((show f_22 1604 = f_21 1604 from by rw [← ef_22]; rfl).trans ((show f_21 1604 = f_20 1604 from by rw [← ef_21]; rfl).trans (show f_20 1604 = 0 from by rw [← ef_20]; rfl)))]; exact (by decide +kernel)) ((Nat.zero_le N)) (⟨(by rw [((show f_22 1605 = f_21 1605 from by rw [← ef_22]; rfl).trans (show f_21 1605 = 0 from by rw [← ef_21]; rfl))]; exact (by decide +kernel)), (by decide)⟩) (⟨by decide +kernel, by decide⟩) (by rw [((show f_22 1632 = f_21 1632 from by rw [← ef_22]; rfl).trans ((show f_21 1632 = f_20 1632 from by rw [← ef_21]; rfl).trans ((show f_20 1632 = f16 1632 from by rw [← ef_20]; rfl).trans hw13.2.2.2.1)))]; decide +kernel) (fun r h => h) (by show (f_22 1637).toInt = ((0 : Nat) : Int); rw [((show f_22 1637 = f_21 1637 from by rw [← ef_22]; rfl).trans ((show f_21 1637 = f_20 1637 from by rw [← ef_21]; rfl).trans ((show f_20 1637 = f16 1637 from by rw [← ef_20]; rfl).trans hw13.2.2.2.2.1)))]; exact (by decide +kernel)) (Nat.le_refl 0) (⟨((0, (fun _ => 0), (fun _ => 0), (fun _ => 0), (fun _ => e1), (fun _ => e1), (fun _ => e1)) : tE), rfl, rfl, hw13.2.2.2.2.2, fun c hc => absurd hc (Nat.not_lt_zero c)⟩) hP hD hS (lv_sub hl [0, 1, 2, 3, 4] rfl)
  · have hisO : isO = (if true = true then 1 else 0) := hp1
    have hiz : isO = 1 := hisO.trans (if_pos rfl)
    have b166 : kb 1 isO 1 := (by rw [hiz]; exact ⟨by decide +kernel, by decide +kernel⟩)
    refine lv_aload_n hx hb dX4_read_0 rfl (lv_at hl 0 rfl) ?_
    refine lv_aload_n hx hb dX4_read_1 rfl (lv_at hl 1 rfl) ?_
    refine lv_iload_n hx hb dX4_read_2 rfl (lv_at hl 2 rfl) ?_
    refine lv_aload_n hx hb dX4_read_3 rfl (lv_at hl 1 rfl) ?_
    refine va_alen (v := 400) hx hb hK hP 93 1 rfl rfl rfl dX4_read_4 ?_
    refine lv_sipush (v := 400) hx hb dX4_read_5 (by decide) ?_
    refine va_mmin hx hb (hml.trans hl.1.symm) hown (hg _ wt3_157) (hg _ wt3_52) (hg _ wt1_9) (hg _ wt3_53) (by decide) (Nat.le_of_ble_eq_true rfl) (by decide) (by decide) dX4_read_8 ?_
    refine lv_topi (fun t167 et167 => ?_)
    have b168 : kb 400 t167 400 := kb_eq et167 (kb_mn kc_400 kc_400 (by decide) (by decide) (by decide) (by decide))
    refine va_mmin hx hb (hml.trans hl.1.symm) hown (hg _ wt3_157) (hg _ wt3_52) (hg _ wt1_9) (hg _ wt3_53) (by decide) (Nat.le_of_ble_eq_true rfl) (by decide) (by decide) dX4_read_11 ?_
    refine lv_topi (fun t169 et169 => ?_)
    have b170 : kb 0 t169 400 := kb_eq et169 (kb_mn blen_ b168 (by decide) (by decide) (by decide) (by decide))
    refine kVG.callW (As := [.ref (r 93), .int t169]) (rest := []) ⟨hx, hb, hml, hown, hg⟩ (y_split l r f a g tx tt hT hI hG t169 b170 S (by rw [et169]; exact min_S hp0 (by have w1 := (b168).1; have w2 := blen_.2; omega))) (cwV 2 hg (kgV wt3_158 wt3_160 wp1_9 wt1_7 wt3_161) rfl rfl rfl (by decide +kernel) ⟨by decide, by decide⟩) hV hK hP hD hS hA (50) 4 rfl rfl rfl hl.1 rfl (Nat.le_of_ble_eq_true rfl) dX4_read_14 ⟨Nat.le_refl _, Nat.le_refl _⟩ (fun u173 H locs hw171 hP hD hS => ?_)
    obtain ⟨f174, a175, g176⟩ := u173
    have hP : va_P D vwCl (xX K r f174 a175 g176 tx) H := hP
    have hD : va_D A (xX K r f174 a175 g176 tx) := hD
    have hI : xI f174 a175 := hw171.1
    have hG : gOK K g176.2 tt := hw171.2.1
    have eE177 : xEk ([1603], [56, 57], []) f a g f174 a175 g176 := hw171.2.2.1
    have hE : xEk ([1603, 1604, 1605, 1606, 1632, 1637], [52, 53, 54, 55, 56, 57], []) f a g f174 a175 g176 := xEk_tr hE (xEk_w (by decide +kernel) eE177)
    obtain ⟨N, hN1, hN2, hsp⟩ := hw171.2.2.2
    obtain ⟨cS, ecS⟩ : ∃ z : Int32, z = f174 1603 := ⟨_, rfl⟩
    have hcS : cS.toInt = (N : Int) + 1 := by rw [ecS]; exact hN1
    refine lv_aload_n hx hb dX4_read_17 rfl (lv_at hl 0 rfl) ?_
    refine va_get (D := D) (ci := 4) (v := .ref (r 51)) (C := RX4) (T := TX4) (N := 7) hx hb hg inC4 hown hK hP 50 rfl rfl 0 (by decide) (hg _ wt2_64) (fun _ h9 => h9) rfl dX4_read_18 ?_
    refine kVG.callW (As := []) (rest := []) ⟨hx, hb, hml, hown, hg⟩ (y_clear l r f174 a175 g176 tx tt hT hI hG   ) (cwV 0 hg (kgV wt3_227 wt3_228 wt3_229 wt1_8 wt3_230) rfl rfl rfl (by decide +kernel) ⟨by decide, by decide⟩) hV hK hP hD hS hA (51) 10 rfl rfl rfl hl.1 rfl (Nat.le_of_ble_eq_true rfl) dX4_read_21 ⟨Nat.le_refl _, Nat.le_refl _⟩ (fun u180 H locs hw178 hP hD hS => ?_)
    obtain ⟨f181, a182, g183⟩ := u180
    have hP : va_P D vwCl (xX K r f181 a182 g183 tx) H := hP
    have hD : va_D A (xX K r f181 a182 g183 tx) := hD
    have hI : xI f181 a182 := hw178.1
    have hG : gOK K g183.2 tt := hw178.2.1
    have eE184 : xEk ([1632, 1637], [54], []) f174 a175 g176 f181 a182 g183 := hw178.2.2.1
    have hE : xEk ([1603, 1604, 1605, 1606, 1632, 1637], [52, 53, 54, 55, 56, 57], []) f a g f181 a182 g183 := xEk_tr hE (xEk_w (by decide +kernel) eE184)
    refine lv_aload_n hx hb dX4_read_24 rfl (lv_at hl 0 rfl) ?_
    refine lv_iconst (v := 0) hx hb dX4_read_25 (by decide) ?_
    refine va_put (D := D) (ci := 4) (v := .int 0) (ty := .int) (C := RX4) (T := TX4) (N := 7) hx hb hg inC4 tyX4 tyX4_ok nmX4 hown hK hP hD hS 50 rfl rfl 4 (by decide) (hg _ wt2_69) (fun _ h9 => h9) rfl (by decide +kernel) rfl rfl (Nat.le_of_ble_eq_true rfl) dX4_read_26 (fun H locs hP hD hS => ?_)
    have hP : va_P D vwCl (xX K r (upd f181 1604 0) a182 g183 tx) H := hP
    have hD : va_D A (xX K r (upd f181 1604 0) a182 g183 tx) := hD
    refine k_gen (P := fun z => va_P D vwCl (xX K r z a182 g183 tx) H ∧ va_D A (xX K r z a182 g183 tx) ∧ (xI z a182) ∧ (gOK K g183.2 tt) ∧ (xEk ([1603, 1604, 1605, 1606, 1632, 1637], [52, 53, 54, 55, 56, 57], []) f a g z a182 g183)) (upd f181 1604 0) ⟨hP, hD, (xI_f hI (fI_st hI.1 1604 (kb_any _) (by decide) (by decide))), hG, (xEk_f hE rfl)⟩ (fun f_185 ef_185 hq => ?_)
    obtain ⟨hP, hD, hI, hG, hE⟩ := hq
    refine lv_aload_n hx hb dX4_read_29 rfl (lv_at hl 0 rfl) ?_
    refine lv_iconst (v := 0) hx hb dX4_read_30 (by decide) ?_
    refine va_put (D := D) (ci := 4) (v := .int 0) (ty := .int) (C := RX4) (T := TX4) (N := 7) hx hb hg inC4 tyX4 tyX4_ok nmX4 hown hK hP hD hS 50 rfl rfl 5 (by decide) (hg _ wt2_70) (fun _ h9 => h9) rfl (by decide +kernel) rfl rfl (Nat.le_of_ble_eq_true rfl) dX4_read_31 (fun H locs hP hD hS => ?_)
    have hP : va_P D vwCl (xX K r (upd f_185 1605 0) a182 g183 tx) H := hP
    have hD : va_D A (xX K r (upd f_185 1605 0) a182 g183 tx) := hD
    refine k_gen (P := fun z => va_P D vwCl (xX K r z a182 g183 tx) H ∧ va_D A (xX K r z a182 g183 tx) ∧ (xI z a182) ∧ (gOK K g183.2 tt) ∧ (xEk ([1603, 1604, 1605, 1606, 1632, 1637], [52, 53, 54, 55, 56, 57], []) f a g z a182 g183)) (upd f_185 1605 0) ⟨hP, hD, (xI_f hI (fI_st hI.1 1605 (kb_any _) (by decide) (by decide))), hG, (xEk_f hE rfl)⟩ (fun f_186 ef_186 hq => ?_)
    obtain ⟨hP, hD, hI, hG, hE⟩ := hq
    refine lv_aload_n hx hb dX4_read_34 rfl (lv_at hl 0 rfl) ?_
    refine lv_iload_n hx hb dX4_read_35 rfl (lv_at hl 3 rfl) ?_
    refine va_put (D := D) (ci := 4) (v := .int isO) (ty := .boolean) (C := RX4) (T := TX4) (N := 7) hx hb hg inC4 tyX4 tyX4_ok nmX4 hown hK hP hD hS 50 rfl rfl 6 (by decide) (hg _ wt2_71) (fun _ h9 => h9) rfl (by decide +kernel) (kb_bo (kb_w b166 (by decide) (by decide))) (kb_fit (kb_w b166 (by decide) (by decide))) (Nat.le_of_ble_eq_true rfl) dX4_read_36 (fun H locs hP hD hS => ?_)
    have hP : va_P D vwCl (xX K r (upd f_186 1606 isO) a182 g183 tx) H := hP
    have hD : va_D A (xX K r (upd f_186 1606 isO) a182 g183 tx) := hD
    refine k_gen (P := fun z => va_P D vwCl (xX K r z a182 g183 tx) H ∧ va_D A (xX K r z a182 g183 tx) ∧ (xI z a182) ∧ (gOK K g183.2 tt) ∧ (xEk ([1603, 1604, 1605, 1606, 1632, 1637], [52, 53, 54, 55, 56, 57], []) f a g z a182 g183)) (upd f_186 1606 isO) ⟨hP, hD, (xI_f hI (fI_st hI.1 1606 (kb_any _) (by decide) (by decide))), hG, (xEk_f hE rfl)⟩ (fun f_187 ef_187 hq => ?_)
    obtain ⟨hP, hD, hI, hG, hE⟩ := hq
    obtain ⟨T, hTd⟩ : ∃ T : Nat → Int32, T = tkT (a 93) S := ⟨_, rfl⟩
    obtain ⟨pl, hpd⟩ : ∃ pl : Nat → Int32, pl = pcT (a 93) S := ⟨_, rfl⟩
    have h56 : a182 56 = a175 56 ∧ a182 57 = a175 57 := ⟨(eE184.2.1 56 rfl), (eE184.2.1 57 rfl)⟩
    have hN4 := hN2
    have hk0 : xQ f_187 a182 N true T pl := ⟨by rw [((show f_187 1603 = f_186 1603 from by rw [← ef_187]; rfl).trans ((show f_186 1603 = f_185 1603 from by rw [← ef_186]; rfl).trans ((show f_185 1603 = f181 1603 from by rw [← ef_185]; rfl).trans ((eE184.1 1603 rfl).trans ecS.symm))))]; exact hcS, hN2, ((show f_187 1606 = isO from by rw [← ef_187]; rfl)).trans hisO, fun k hk => by rw [h56.1, hTd]; exact hsp.2.2.1 k hk, fun k hk => by rw [h56.2, hpd]; exact hsp.2.2.2 k hk, fun k hk => by rw [hTd]; exact tkT_e hsp.1 hk, fun k => by rw [hTd]; exact tkT_b k⟩
    refine lv_iconst (v := 0) hx hb dX4_read_39 (by decide) ?_
    refine lv_istore (lv' := [(4, .int 0), (0, .ref (r 50)), (1, .ref (r 93)), (2, .int len_), (3, .int isO)]) hx hb dX4_read_40 hl (by decide) rfl (fun ls hl => ?_)
    have lp192 : ∀ (n193 : Nat) (i0 : Nat) (n0 : Nat) (cn : Nat) (so : Nat) (F189 : Nat → Int32) (B190 : Nat → Nat → Int32) (G191 : xG) (H : Heap) (locs : List Loc) (ls : Array Slot) (y188 : Int32), (12 < y188.toInt + (n193 : Int)) → (xI F189 B190) → (gOK K G191.2 tt) → (xEk ([1603, 1604, 1605, 1606, 1632, 1637], [52, 53, 54, 55, 56, 57], []) f a g F189 B190 G191) → (xQ F189 B190 N true T pl) → (kb 0 y188 12) → ((F189 1604).toInt = (i0 : Int)) → (i0 ≤ N) → ((F189 1605).toInt = (n0 : Int) ∧ n0 ≤ 50) → (y188.toInt = (cn : Int) ∧ cn ≤ 12) → ((F189 1632).toInt = (cn : Int)) → (∀ r, pT true T N (12 - cn) i0 n0 r → pT true T N 12 0 0 r) → ((F189 1637).toInt = (so : Int)) → (so ≤ i0) → (rdI true T cn i0 so B190) → va_P D vwCl (xX K r F189 B190 G191 tx) H → va_D A (xX K r F189 B190 G191 tx) → va_S A s.heap H locs → lv_has ls 5 [(4, .int y188), (0, .ref (r 50)), (1, .ref (r 93)), (2, .int len_), (3, .int isO)] → W p l e (rmD 28 0 0) s m ([.ref (r 50), .ref (r 93), .int len_, .int isO] : List Value).toArray below meth c H locs 0 0 (kQi D (tysK K) (fun v (u : xS) => kb (-2147483648) v 2147483647 ∧ xI u.1 u.2.1 ∧ gOK K u.2.2.2 tt ∧ xEk ([1603, 1604, 1605, 1606, 1632, 1637], [52, 53, 54, 55, 56, 57], []) f a g u.1 u.2.1 u.2.2 ∧ (∃ b : Bool, txR true (a 93) S b v ∧ (b = true → ∃ N n sz : Nat, (u.1 1632).toInt = (n : Int) ∧ (u.1 1637).toInt = (sz : Int) ∧ sz ≤ 400 ∧ plT (a 93) S N = S ∧ (∀ i, i < N → plT (a 93) S i < S) ∧ rdF true (tkT (a 93) S) N n sz u.2.1))) (fun u => xX K r u.1 u.2.1 u.2.2 tx) A below ([.ref (r 50), .ref (r 93), .int len_, .int isO] : List Value).toArray s 0 0) (F0 m 42 ls []) := by
      intro n193
      induction n193 with
      | zero =>
        intro i0 n0 cn so F189 B190 G191  H locs ls y188 hmlp192 hI hG hE hk0 b194 hvlp192_0 hvlp192_1 hvlp192_2 hvlp192_3 hvlp192_4 hvlp192_5 hvlp192_6 hvlp192_7 hvlp192_8 hP hD hS hl
        exact (by have h1 := b194.2; have h2 := hmlp192; omega : False).elim
      | succ n193 ihlp192 =>
        intro i0 n0 cn so F189 B190 G191  H locs ls y188 hmlp192 hI hG hE hk0 b194 hvlp192_0 hvlp192_1 hvlp192_2 hvlp192_3 hvlp192_4 hvlp192_5 hvlp192_6 hvlp192_7 hvlp192_8 hP hD hS hl
        obtain ⟨gv195, egv195⟩ : ∃ z : Int32, z = F189 1604 := ⟨_, rfl⟩
        have hg196 : gv195.toInt = ((i0 : Nat) : Int) := by rw [egv195]; exact hvlp192_0
        have b197 : kb 0 gv195 400 := kb_pos hvlp192_1 hN4 hg196
        obtain ⟨z198, ez198⟩ : ∃ z : Int32, z = F189 1605 := ⟨_, rfl⟩
        have hzz198 : z198.toInt = ((n0 : Nat) : Int) := by rw [ez198]; exact hvlp192_2.1
        have b199 : kb 0 z198 50 := ⟨by omega, by have w1 := hvlp192_2.2; omega⟩
        obtain ⟨cC, ecC⟩ : ∃ z : Int32, z = F189 1632 := ⟨_, rfl⟩
        have hcC : cC.toInt = (cn : Int) := by rw [ecC]; exact hvlp192_4
        have xo := hvlp192_5
        obtain ⟨zs200, ezs200⟩ : ∃ z : Int32, z = F189 1637 := ⟨_, rfl⟩
        have hzzs200 : zs200.toInt = ((so : Nat) : Int) := by rw [ezs200]; exact hvlp192_6
        have hsr := hvlp192_7
        have hrI := hvlp192_8
        refine lv_iload hx hb dX4_read_42 (lv_at hl 0 rfl) ?_
        refine lv_bipush (v := 12) hx hb dX4_read_44 (by decide) ?_
        refine lv_icmp_ge (tgt := 159) hx hb dX4_read_46 (by decide) (fun c201 => ?_) (fun c201 => ?_)
        · have h202 := (kc_le c201)
          have b203 : kb 12 y188 12 := kr_le2 h202 kc_12 b194
          refine lv_aload_n hx hb dX4_read_159 rfl (lv_at hl 1 rfl) ?_
          refine kIG.callW (As := []) (rest := []) ⟨hx, hb, hml, hown, hg⟩ (y_placeInHand l r F189 B190 G191 tx tt hT hI hG   N (i0) true T pl hk0 (by rw [egv195.symm]; exact hg196) hvlp192_1) (cwV 0 hg (kgV wt4_46 wt4_48 wp2_4 wt1_7 wt4_49) rfl rfl rfl (by decide +kernel) ⟨by decide, by decide⟩) hV hK hP hD hS hA (50) 4 rfl rfl rfl hl.1 rfl (Nat.le_of_ble_eq_true rfl) dX4_read_160 ⟨Nat.le_refl _, Nat.le_refl _⟩ (fun v205 u206 H locs hw204 hP hD hS => ?_)
          have hP : va_P D vwCl (xX K r F189 B190 G191 tx) H := hP
          have hD : va_D A (xX K r F189 B190 G191 tx) := hD
          exact kI_ret (v := v205) hx hb hr hlocks rfl hK hS dX4_read_163 (F189, B190, G191) hP hD ⟨(kb_any v205), hI, hG, hE, ⟨false, ⟨N, i0, hsp.1, hsp.2.1, (by rw [← hTd]; exact xo _ (by rw [show 12 - cn = 0 by have w1 := hvlp192_3; have w3 : (12 : Int32).toInt = 12 := (by decide +kernel); first | (have w2 := kc_le c201; omega) | (have w2 := kc_nlt c201; omega)]; exact rfl)), (hw204.2.trans (congrFun hpd _))⟩, fun q => absurd q (by decide)⟩⟩
        · have h207 := (kc_nle c201)
          have b208 : kb 0 y188 11 := kr_lt1 h207 b194 kc_12 (by decide)
          have hc12 : cn < 12 := by have w1 := hvlp192_3; have w3 : (12 : Int32).toInt = 12 := (by decide +kernel); first | (have w2 := kc_nle c201; omega) | (have w2 := kc_lt c201; omega)
          refine lv_iload_n hx hb dX4_read_49 rfl (lv_at hl 4 rfl) ?_
          refine lv_if_eq (tgt := 63) hx hb dX4_read_50 (by decide) (fun c209 => ?_) (fun c209 => ?_)
          · exact kb_dj c209 b166 kc_0 (by decide)
          · refine lv_aload_n hx hb dX4_read_53 rfl (lv_at hl 1 rfl) ?_
            refine kIG.callW (As := []) (rest := []) ⟨hx, hb, hml, hown, hg⟩ (y_readOrder l r F189 B190 G191 tx tt hT hI hG   N (i0) (n0) (so) cn true T pl hk0 (by rw [egv195.symm]; exact hg196) hvlp192_1 ⟨(by rw [ez198.symm]; exact hzz198), hvlp192_2.2⟩ ⟨(by show (F189 1637).toInt = ((so : Nat) : Int); rw [ezs200.symm]; exact hzzs200), hsr⟩ (by rw [ecC.symm]; exact hcC) (hc12) rfl) (cwV 0 hg (kgV wt3_234 wt3_236 wp1_11 wt1_7 wt3_237) rfl rfl rfl (by decide +kernel) ⟨by decide, by decide⟩) hV hK hP hD hS hA (50) 4 rfl rfl rfl hl.1 rfl (Nat.le_of_ble_eq_true rfl) dX4_read_54 ⟨Nat.le_refl _, Nat.le_refl _⟩ (fun v211 u212 H locs hw210 hP hD hS => ?_)
            obtain ⟨f213, a214, g215⟩ := u212
            have hP : va_P D vwCl (xX K r f213 a214 g215 tx) H := hP
            have hD : va_D A (xX K r f213 a214 g215 tx) := hD
            have hI : xI f213 a214 := hw210.2.1
            have hG : gOK K g215.2 tt := hw210.2.2.1
            have eE216 : xEk ([1604, 1605, 1632, 1637], [52, 53, 54, 55], []) F189 B190 G191 f213 a214 g215 := hw210.2.2.2.1
            have hE : xEk ([1603, 1604, 1605, 1606, 1632, 1637], [52, 53, 54, 55, 56, 57], []) f a g f213 a214 g215 := xEk_tr hE (xEk_w (by decide +kernel) eE216)
            have hk0 : xQ f213 a214 N true T pl := xQ_c hk0 (eE216.1 1603 rfl) (eE216.1 1606 rfl) ⟨eE216.2.1 56 rfl, eE216.2.1 57 rfl⟩
            obtain ⟨ik217, nk217, hgk217, hlek217, hNk217, hck217⟩ := hw210.2.2.2.2
            rcases hck217 with ⟨hvk217, h3k217, h4k217, hGk217, hdk217⟩ | ⟨hvk217, hGk217⟩
            · obtain ⟨sk217, hzk217, hslk217⟩ := hd_sz hdk217 hsr
              obtain ⟨zs218, ezs218⟩ : ∃ z : Int32, z = f213 1637 := ⟨_, rfl⟩
              have hzzs218 : zs218.toInt = ((sk217 : Nat) : Int) := by rw [ezs218]; exact hzk217
              refine k_top (z := 1) hvk217 ?_
              obtain ⟨gv219, egv219⟩ : ∃ z : Int32, z = f213 1604 := ⟨_, rfl⟩
              have hg220 : gv219.toInt = ((ik217 : Nat) : Int) := by rw [egv219]; exact hgk217
              have b221 : kb 0 gv219 400 := kb_pos hNk217 hN4 hg220
              obtain ⟨z222, ez222⟩ : ∃ z : Int32, z = f213 1605 := ⟨_, rfl⟩
              have hzz222 : z222.toInt = ((nk217 : Nat) : Int) := by rw [ez222]; exact h3k217.1
              have b223 : kb 0 z222 50 := ⟨by omega, by have w1 := h3k217.2; omega⟩
              obtain ⟨z224, ez224⟩ : ∃ z : Int32, z = f213 1632 := ⟨_, rfl⟩
              have hCz224 : z224.toInt = ((cn + 1 : Nat) : Int) := by rw [ez224]; exact h4k217
              refine lv_if_eq (tgt := 70) hx hb dX4_read_57 (by decide) (fun c225 => ?_) (fun c225 => ?_)
              · exact kb_dj c225 kc_1 kc_0 (by decide)
              · refine lv_goto (tgt := 75) hx hb dX4_read_60 (by decide) ?_
                refine lv_aload_n hx hb dX4_read_75 rfl (lv_at hl 1 rfl) ?_
                refine kIG.callW (As := []) (rest := []) ⟨hx, hb, hml, hown, hg⟩ (y_inHand l r f213 a214 g215 tx tt hT hI hG   N (ik217) true T pl hk0 (by rw [egv219.symm]; exact hg220) hNk217) (cwV 0 hg (kgV wt3_238 wt4_0 wp1_12 wt1_7 wt4_1) rfl rfl rfl (by decide +kernel) ⟨by decide, by decide⟩) hV hK hP hD hS hA (50) 4 rfl rfl rfl hl.1 rfl (Nat.le_of_ble_eq_true rfl) dX4_read_76 ⟨Nat.le_refl _, Nat.le_refl _⟩ (fun v227 u228 H locs hw226 hP hD hS => ?_)
                have hP : va_P D vwCl (xX K r f213 a214 g215 tx) H := hP
                have hD : va_D A (xX K r f213 a214 g215 tx) := hD
                have b229 : kb 0 v227 4000 := kb_eq hw226.2 (hk0.2.2.2.2.2.2 (ik217))
                refine lv_sipush (v := 2003) hx hb dX4_read_79 (by decide) ?_
                refine lv_icmp_ne (tgt := 108) hx hb dX4_read_82 (by decide) (fun c230 => ?_) (fun c230 => ?_)
                · refine lv_aload_n hx hb dX4_read_108 rfl (lv_at hl 1 rfl) ?_
                  refine va_get (D := D) (ci := 4) (v := .ref (r 51)) (C := RX4) (T := TX4) (N := 7) hx hb hg inC4 hown hK hP 50 rfl rfl 0 (by decide) (hg _ wt2_64) (fun _ h9 => h9) rfl dX4_read_109 ?_
                  refine lv_iconst (v := 2) hx hb dX4_read_112 (by decide) ?_
                  refine kVG.callW (As := [.int 2]) (rest := []) ⟨hx, hb, hml, hown, hg⟩ (y_close l r f213 a214 g215 tx tt hT hI hG 2 (kb_w kc_2 (by decide) (by decide)) (cn + 1) (sk217) (by show (f213 1632).toInt = ((cn + 1 : Nat) : Int); rw [ez224.symm]; exact hCz224) ⟨Nat.le_add_left 1 cn, by omega⟩ (by show (f213 1637).toInt = ((sk217 : Nat) : Int); rw [ezs218.symm]; exact hzzs218)) (cwV 1 hg (kgV wt4_30 wt4_31 wt4_32 wt1_8 wt4_33) rfl rfl rfl (by decide +kernel) ⟨by decide, by decide⟩) hV hK hP hD hS hA (51) 10 rfl rfl rfl hl.1 rfl (Nat.le_of_ble_eq_true rfl) dX4_read_113 ⟨Nat.le_refl _, Nat.le_refl _⟩ (fun u233 H locs hw231 hP hD hS => ?_)
                  obtain ⟨f234, a235, g236⟩ := u233
                  have hP : va_P D vwCl (xX K r f234 a235 g236 tx) H := hP
                  have hD : va_D A (xX K r f234 a235 g236 tx) := hD
                  have hI : xI f234 a235 := hw231.1
                  have hG : gOK K g236.2 tt := hw231.2.1
                  have eE237 : xEk ([], [54], []) f213 a214 g215 f234 a235 g236 := hw231.2.2.1
                  have hE : xEk ([1603, 1604, 1605, 1606, 1632, 1637], [52, 53, 54, 55, 56, 57], []) f a g f234 a235 g236 := xEk_tr hE (xEk_w (by decide +kernel) eE237)
                  have hk0 : xQ f234 a235 N true T pl := xQ_c hk0 (eE237.1 1603 rfl) (eE237.1 1606 rfl) ⟨eE237.2.1 56 rfl, eE237.2.1 57 rfl⟩
                  have hcl238 : (a235 54 (3 * cn + 3)).toInt = ((sk217 : Nat) : Int) ∧ ∀ p, ¬ p = 3 * cn + 3 → a235 54 p = a214 54 p := by
                    have w2 : (2 : Int32).toInt = 2 := (by decide +kernel)
                    have w1 : 3 * (cn + 1 - 1) + (2 : Int32).toInt.toNat + 1 = 3 * cn + 3 := by rw [w2]; omega
                    have w3 := hw231.2.2.2
                    rw [w1] at w3
                    exact w3
                  have hrd := rd_st hrI hdk217 hzk217 (Or.inl ⟨(fun q => c230 (hw226.2.trans q)), rfl, rfl, rfl⟩) (rfl : a214 52 = a214 52) (rfl : a214 53 = a214 53) (rfl : a214 54 = a214 54) (eE237.2.1 52 rfl) (eE237.2.1 53 rfl) (eE237.2.1 55 rfl) hcl238.1 hcl238.2
                  refine lv_aload_n hx hb dX4_read_116 rfl (lv_at hl 1 rfl) ?_
                  refine kIG.callW (As := []) (rest := []) ⟨hx, hb, hml, hown, hg⟩ (y_inHand l r f234 a235 g236 tx tt hT hI hG   N (ik217) true T pl hk0 (by rw [((eE237.1 1604 rfl).trans egv219.symm)]; exact hg220) hNk217) (cwV 0 hg (kgV wt3_238 wt4_0 wp1_12 wt1_7 wt4_1) rfl rfl rfl (by decide +kernel) ⟨by decide, by decide⟩) hV hK hP hD hS hA (50) 4 rfl rfl rfl hl.1 rfl (Nat.le_of_ble_eq_true rfl) dX4_read_117 ⟨Nat.le_refl _, Nat.le_refl _⟩ (fun v240 u241 H locs hw239 hP hD hS => ?_)
                  have hP : va_P D vwCl (xX K r f234 a235 g236 tx) H := hP
                  have hD : va_D A (xX K r f234 a235 g236 tx) := hD
                  have b242 : kb 0 v240 4000 := kb_eq hw239.2 (hk0.2.2.2.2.2.2 (ik217))
                  refine lv_sipush (v := 4000) hx hb dX4_read_120 (by decide) ?_
                  refine lv_icmp_ne (tgt := 128) hx hb dX4_read_123 (by decide) (fun c243 => ?_) (fun c243 => ?_)
                  · have b244 : kb 0 v240 3999 := kr_neh c243 b242 kc_4000 (by decide)
                    refine lv_aload_n hx hb dX4_read_128 rfl (lv_at hl 1 rfl) ?_
                    refine kIG.callW (As := []) (rest := []) ⟨hx, hb, hml, hown, hg⟩ (y_inHand l r f234 a235 g236 tx tt hT hI hG   N (ik217) true T pl hk0 (by rw [((eE237.1 1604 rfl).trans egv219.symm)]; exact hg220) hNk217) (cwV 0 hg (kgV wt3_238 wt4_0 wp1_12 wt1_7 wt4_1) rfl rfl rfl (by decide +kernel) ⟨by decide, by decide⟩) hV hK hP hD hS hA (50) 4 rfl rfl rfl hl.1 rfl (Nat.le_of_ble_eq_true rfl) dX4_read_129 ⟨Nat.le_refl _, Nat.le_refl _⟩ (fun v246 u247 H locs hw245 hP hD hS => ?_)
                    have hP : va_P D vwCl (xX K r f234 a235 g236 tx) H := hP
                    have hD : va_D A (xX K r f234 a235 g236 tx) := hD
                    have b248 : kb 0 v246 4000 := kb_eq hw245.2 (hk0.2.2.2.2.2.2 (ik217))
                    refine lv_sipush (v := 3059) hx hb dX4_read_132 (by decide) ?_
                    refine lv_icmp_eq (tgt := 143) hx hb dX4_read_135 (by decide) (fun c249 => ?_) (fun c249 => ?_)
                    · have b250 : kb 3059 v246 3059 := kb_eq c249 kc_3059
                      refine lv_aload_n hx hb dX4_read_143 rfl (lv_at hl 1 rfl) ?_
                      refine lv_dup hx hb dX4_read_144 rfl ?_
                      have hlt251 : ik217 < N := xQ_lt hk0 (ne_4000 (hw245.2.symm.trans c249) (by decide +kernel))
                      have b252 : kb 0 gv219 399 := kb_pos1 hlt251 hN4 hg220
                      refine va_get (D := D) (ci := 4) (v := .int (f234 1604)) (C := RX4) (T := TX4) (N := 7) hx hb hg inC4 hown hK hP 50 rfl rfl 4 (by decide) (hg _ wt2_69) (fun _ h9 => h9) rfl dX4_read_145 ?_
                      refine k_top (z := gv219) ((eE237.1 1604 rfl).trans egv219.symm) ?_
                      refine lv_iconst (v := 1) hx hb dX4_read_148 (by decide) ?_
                      refine lv_iadd hx hb dX4_read_149 ?_
                      refine lv_topi (fun t253 et253 => ?_)
                      have b254 : kb 1 t253 400 := kb_eq et253 (kb_add b252 kc_1 (by decide) (by decide))
                      have qt253 : t253.toInt = gv219.toInt + 1 := by rw [et253]; exact kt_addc b252 kc_1 (by decide) (by decide)
                      have hg255 : t253.toInt = ((ik217 + 1 : Nat) : Int) := by rw [qt253, hg220]; omega
                      refine va_put (D := D) (ci := 4) (v := .int t253) (ty := .int) (C := RX4) (T := TX4) (N := 7) hx hb hg inC4 tyX4 tyX4_ok nmX4 hown hK hP hD hS 50 rfl rfl 4 (by decide) (hg _ wt2_69) (fun _ h9 => h9) rfl (by decide +kernel) rfl rfl (Nat.le_of_ble_eq_true rfl) dX4_read_150 (fun H locs hP hD hS => ?_)
                      have hP : va_P D vwCl (xX K r (upd f234 1604 t253) a235 g236 tx) H := hP
                      have hD : va_D A (xX K r (upd f234 1604 t253) a235 g236 tx) := hD
                      refine k_gen (P := fun z => va_P D vwCl (xX K r z a235 g236 tx) H ∧ va_D A (xX K r z a235 g236 tx) ∧ (xI z a235) ∧ (gOK K g236.2 tt) ∧ (xEk ([1603, 1604, 1605, 1606, 1632, 1637], [52, 53, 54, 55, 56, 57], []) f a g z a235 g236) ∧ (xQ z a235 N true T pl)) (upd f234 1604 t253) ⟨hP, hD, (xI_f hI (fI_st hI.1 1604 (kb_any _) (by decide) (by decide))), hG, (xEk_f hE rfl), (xQ_f hk0 (by decide) (by decide))⟩ (fun f_256 ef_256 hq => ?_)
                      obtain ⟨hP, hD, hI, hG, hE, hk0⟩ := hq
                      obtain ⟨t257, et257⟩ : ∃ z : Int32, z = y188 + Int32.ofInt 1 := ⟨_, rfl⟩
                      have qt257 : t257.toInt = y188.toInt + 1 := by rw [et257]; exact km_inc b208 (by decide) (by decide)
                      have b258 : kb 1 t257 12 := kb_inc (k := 1) qt257 b208
                      refine lv_iinc (v := t257) (lv' := [(4, .int t257), (0, .ref (r 50)), (1, .ref (r 93)), (2, .int len_), (3, .int isO)]) hx hb dX4_read_153 hl (k := 0) rfl et257.symm (by decide) rfl (fun ls hl => ?_)
                      refine lv_goto (tgt := 42) hx hb dX4_read_156 (by decide) ?_
                      exact ihlp192 (ik217 + 1) (nk217) (cn + 1) (sk217) f_256 a235 g236 _ _ _ t257 (km_up hmlp192 qt257) hI hG hE hk0 (kb_w b258 (by decide) (by decide)) (by rw [(show f_256 1604 = t253 from by rw [← ef_256]; rfl)]; exact hg255) (hlt251) (⟨(by rw [((show f_256 1605 = f234 1605 from by rw [← ef_256]; rfl).trans ((eE237.1 1605 rfl).trans ez222.symm))]; exact hzz222), h3k217.2⟩) (⟨by have w1 := hvlp192_3; omega, hc12⟩) (by rw [((show f_256 1632 = f234 1632 from by rw [← ef_256]; rfl).trans ((eE237.1 1632 rfl).trans ez224.symm))]; exact hCz224) (fun r h => xo r (c12 hc12 (pT_s (hGk217 _ (pi_12n (fun q => c230 (hw226.2.trans q)))) (Or.inl ⟨(hw245.2.symm.trans c249), h⟩)))) (by show (f_256 1637).toInt = ((sk217 : Nat) : Int); rw [((show f_256 1637 = f234 1637 from by rw [← ef_256]; rfl).trans ((eE237.1 1637 rfl).trans ezs218.symm))]; exact hzzs218) (by have w1 := hrd.1; omega) (rd_nx (so := so) hrd.2 hcl238.1 (hw245.2.symm.trans c249)) hP hD hS (lv_sub hl [0, 1, 2, 3, 4] rfl)
                    · refine lv_aload_n hx hb dX4_read_138 rfl (lv_at hl 1 rfl) ?_
                      refine kIG.callW (As := []) (rest := []) ⟨hx, hb, hml, hown, hg⟩ (y_placeInHand l r f234 a235 g236 tx tt hT hI hG   N (ik217) true T pl hk0 (by rw [((eE237.1 1604 rfl).trans egv219.symm)]; exact hg220) hNk217) (cwV 0 hg (kgV wt4_46 wt4_48 wp2_4 wt1_7 wt4_49) rfl rfl rfl (by decide +kernel) ⟨by decide, by decide⟩) hV hK hP hD hS hA (50) 4 rfl rfl rfl hl.1 rfl (Nat.le_of_ble_eq_true rfl) dX4_read_139 ⟨Nat.le_refl _, Nat.le_refl _⟩ (fun v260 u261 H locs hw259 hP hD hS => ?_)
                      have hP : va_P D vwCl (xX K r f234 a235 g236 tx) H := hP
                      have hD : va_D A (xX K r f234 a235 g236 tx) := hD
                      exact kI_ret (v := v260) hx hb hr hlocks rfl hK hS dX4_read_142 (f234, a235, g236) hP hD ⟨(kb_any v260), hI, hG, hE, ⟨false, ⟨N, ik217, hsp.1, hsp.2.1, (by rw [← hTd]; exact xo _ (c12 hc12 (pT_s (hGk217 _ (pi_12n (fun q => c230 (hw226.2.trans q)))) (Or.inr (Or.inl ⟨(fun q => c249 (hw245.2.trans q)), xQ_lt hk0 (fun q => c243 (hw239.2.trans q)), rfl⟩))))), (hw259.2.trans (congrFun hpd _))⟩, fun q => absurd q (by decide)⟩⟩
                  · have b262 : kb 4000 v240 4000 := kb_eq c243 kc_4000
                    refine lv_iconst (v := (-1)) hx hb dX4_read_126 (by decide) ?_
                    exact kI_ret (v := (-1)) hx hb hr hlocks rfl hK hS dX4_read_127 (f234, a235, g236) hP hD ⟨(kb_w kc_m1 (by decide) (by decide)), hI, hG, hE, ⟨true, ⟨N, ik217, hsp.1, hsp.2.1, (by rw [← hTd]; exact xo _ (c12 hc12 (pT_s (hGk217 _ (pi_12n (fun q => c230 (hw226.2.trans q)))) (Or.inr (Or.inr ⟨(fun q => absurd ((hw239.2.symm.trans c243).symm.trans q) (by decide +kernel)), tk_end hsp.2.1 (by rw [← hTd]; exact (hw239.2.symm.trans c243)), rfl⟩))))), rfl⟩, fun _ => ⟨N, cn + 1, sk217, (by show (f234 1632).toInt = ((cn + 1 : Nat) : Int); rw [((eE237.1 1632 rfl).trans ez224.symm)]; exact hCz224), (by show (f234 1637).toInt = ((sk217 : Nat) : Int); rw [((eE237.1 1637 rfl).trans ezs218.symm)]; exact hzzs218), (by have w1 := hrd.1; have w2 := hNk217; omega), hsp.1, hsp.2.1, (by rw [← hTd]; exact rd_fin (so := so) hrd.2 hc12 (by have w1 := tk_end (j := ik217) hsp.2.1 (by rw [← hTd]; exact (hw239.2.symm.trans c243)); have w2 := hNk217; omega))⟩⟩⟩
                · have b263 : kb 2003 v227 2003 := kb_eq c230 kc_2003
                  refine lv_aload_n hx hb dX4_read_85 rfl (lv_at hl 1 rfl) ?_
                  refine lv_dup hx hb dX4_read_86 rfl ?_
                  have hlt264 : ik217 < N := xQ_lt hk0 (ne_4000 (hw226.2.symm.trans c230) (by decide +kernel))
                  have b265 : kb 0 gv219 399 := kb_pos1 hlt264 hN4 hg220
                  refine va_get (D := D) (ci := 4) (v := .int (f213 1604)) (C := RX4) (T := TX4) (N := 7) hx hb hg inC4 hown hK hP 50 rfl rfl 4 (by decide) (hg _ wt2_69) (fun _ h9 => h9) rfl dX4_read_87 ?_
                  refine k_top (z := gv219) egv219.symm ?_
                  refine lv_iconst (v := 1) hx hb dX4_read_90 (by decide) ?_
                  refine lv_iadd hx hb dX4_read_91 ?_
                  refine lv_topi (fun t266 et266 => ?_)
                  have b267 : kb 1 t266 400 := kb_eq et266 (kb_add b265 kc_1 (by decide) (by decide))
                  have qt266 : t266.toInt = gv219.toInt + 1 := by rw [et266]; exact kt_addc b265 kc_1 (by decide) (by decide)
                  have hg268 : t266.toInt = ((ik217 + 1 : Nat) : Int) := by rw [qt266, hg220]; omega
                  refine va_put (D := D) (ci := 4) (v := .int t266) (ty := .int) (C := RX4) (T := TX4) (N := 7) hx hb hg inC4 tyX4 tyX4_ok nmX4 hown hK hP hD hS 50 rfl rfl 4 (by decide) (hg _ wt2_69) (fun _ h9 => h9) rfl (by decide +kernel) rfl rfl (Nat.le_of_ble_eq_true rfl) dX4_read_92 (fun H locs hP hD hS => ?_)
                  have hP : va_P D vwCl (xX K r (upd f213 1604 t266) a214 g215 tx) H := hP
                  have hD : va_D A (xX K r (upd f213 1604 t266) a214 g215 tx) := hD
                  refine k_gen (P := fun z => va_P D vwCl (xX K r z a214 g215 tx) H ∧ va_D A (xX K r z a214 g215 tx) ∧ (xI z a214) ∧ (gOK K g215.2 tt) ∧ (xEk ([1603, 1604, 1605, 1606, 1632, 1637], [52, 53, 54, 55, 56, 57], []) f a g z a214 g215) ∧ (xQ z a214 N true T pl)) (upd f213 1604 t266) ⟨hP, hD, (xI_f hI (fI_st hI.1 1604 (kb_any _) (by decide) (by decide))), hG, (xEk_f hE rfl), (xQ_f hk0 (by decide) (by decide))⟩ (fun f_269 ef_269 hq => ?_)
                  obtain ⟨hP, hD, hI, hG, hE, hk0⟩ := hq
                  refine lv_aload_n hx hb dX4_read_95 rfl (lv_at hl 1 rfl) ?_
                  refine lv_iconst (v := 0) hx hb dX4_read_96 (by decide) ?_
                  refine kIG.callW (As := [.int 0]) (rest := []) ⟨hx, hb, hml, hown, hg⟩ ((y_allTest 8) l r f_269 a214 g215 tx tt hT hI hG 0 (kb_w kc_0 (by decide) (by decide)) N (ik217 + 1) (nk217) (sk217) true T pl hk0 (by rw [(show f_269 1604 = t266 from by rw [← ef_269]; rfl)]; exact hg268) hlt264 ⟨(by rw [((show f_269 1605 = f213 1605 from by rw [← ef_269]; rfl).trans ez222.symm)]; exact hzz222), h3k217.2⟩ ⟨(by show (f_269 1637).toInt = ((sk217 : Nat) : Int); rw [((show f_269 1637 = f213 1637 from by rw [← ef_269]; rfl).trans ezs218.symm)]; exact hzzs218), (by omega)⟩ (by decide +kernel)) (cwV 1 hg (kgV wt4_50 wt4_52 wp2_5 wt1_7 wt4_53) rfl rfl rfl (by decide +kernel) ⟨by decide, by decide⟩) hV hK hP hD hS hA (50) 4 rfl rfl rfl hl.1 rfl (Nat.le_of_ble_eq_true rfl) dX4_read_97 ⟨Nat.le_refl _, Nat.le_refl _⟩ (fun v271 u272 H locs hw270 hP hD hS => ?_)
                  obtain ⟨f273, a274, g275⟩ := u272
                  have hP : va_P D vwCl (xX K r f273 a274 g275 tx) H := hP
                  have hD : va_D A (xX K r f273 a274 g275 tx) := hD
                  have hI : xI f273 a274 := hw270.2.1
                  have hG : gOK K g275.2 tt := hw270.2.2.1
                  have eE276 : xEk ([1604, 1605, 1637], [55], []) f_269 a214 g215 f273 a274 g275 := hw270.2.2.2.1
                  have hE : xEk ([1603, 1604, 1605, 1606, 1632, 1637], [52, 53, 54, 55, 56, 57], []) f a g f273 a274 g275 := xEk_tr hE (xEk_w (by decide +kernel) eE276)
                  have hk0 : xQ f273 a274 N true T pl := xQ_c hk0 (eE276.1 1603 rfl) (eE276.1 1606 rfl) ⟨eE276.2.1 56 rfl, eE276.2.1 57 rfl⟩
                  obtain ⟨ik277, nk277, hgk277, hlek277, hNk277, hck277⟩ := hw270.2.2.2.2
                  rcases hck277 with ⟨hvk277, h3k277, hltk277, hGk277, hcdk277⟩ | ⟨hvk277, hGk277⟩
                  · refine k_top (z := 1) hvk277 ?_
                    obtain ⟨gv278, egv278⟩ : ∃ z : Int32, z = f273 1604 := ⟨_, rfl⟩
                    have hg279 : gv278.toInt = ((ik277 : Nat) : Int) := by rw [egv278]; exact hgk277
                    have b280 : kb 0 gv278 400 := kb_pos hNk277 hN4 hg279
                    obtain ⟨z281, ez281⟩ : ∃ z : Int32, z = f273 1605 := ⟨_, rfl⟩
                    have hzz281 : z281.toInt = ((nk277 : Nat) : Int) := by rw [ez281]; exact h3k277.1
                    have b282 : kb 0 z281 50 := ⟨by omega, by have w1 := h3k277.2; omega⟩
                    obtain ⟨sk277, wk277, hzk277, hlk277, hqk277, hek277, hrk277⟩ := hcdk277
                    obtain ⟨zs283, ezs283⟩ : ∃ z : Int32, z = f273 1637 := ⟨_, rfl⟩
                    have hzzs283 : zs283.toInt = ((sk277 : Nat) : Int) := by rw [ezs283]; exact hzk277
                    refine lv_if_ne (tgt := 108) hx hb dX4_read_100 (by decide) (fun c284 => ?_) (fun c284 => ?_)
                    · refine lv_aload_n hx hb dX4_read_108 rfl (lv_at hl 1 rfl) ?_
                      refine va_get (D := D) (ci := 4) (v := .ref (r 51)) (C := RX4) (T := TX4) (N := 7) hx hb hg inC4 hown hK hP 50 rfl rfl 0 (by decide) (hg _ wt2_64) (fun _ h9 => h9) rfl dX4_read_109 ?_
                      refine lv_iconst (v := 2) hx hb dX4_read_112 (by decide) ?_
                      refine kVG.callW (As := [.int 2]) (rest := []) ⟨hx, hb, hml, hown, hg⟩ (y_close l r f273 a274 g275 tx tt hT hI hG 2 (kb_w kc_2 (by decide) (by decide)) (cn + 1) (sk277) (by show (f273 1632).toInt = ((cn + 1 : Nat) : Int); rw [((eE276.1 1632 rfl).trans ((show f_269 1632 = f213 1632 from by rw [← ef_269]; rfl).trans ez224.symm))]; exact hCz224) ⟨Nat.le_add_left 1 cn, by omega⟩ (by show (f273 1637).toInt = ((sk277 : Nat) : Int); rw [ezs283.symm]; exact hzzs283)) (cwV 1 hg (kgV wt4_30 wt4_31 wt4_32 wt1_8 wt4_33) rfl rfl rfl (by decide +kernel) ⟨by decide, by decide⟩) hV hK hP hD hS hA (51) 10 rfl rfl rfl hl.1 rfl (Nat.le_of_ble_eq_true rfl) dX4_read_113 ⟨Nat.le_refl _, Nat.le_refl _⟩ (fun u287 H locs hw285 hP hD hS => ?_)
                      obtain ⟨f288, a289, g290⟩ := u287
                      have hP : va_P D vwCl (xX K r f288 a289 g290 tx) H := hP
                      have hD : va_D A (xX K r f288 a289 g290 tx) := hD
                      have hI : xI f288 a289 := hw285.1
                      have hG : gOK K g290.2 tt := hw285.2.1
                      have eE291 : xEk ([], [54], []) f273 a274 g275 f288 a289 g290 := hw285.2.2.1
                      have hE : xEk ([1603, 1604, 1605, 1606, 1632, 1637], [52, 53, 54, 55, 56, 57], []) f a g f288 a289 g290 := xEk_tr hE (xEk_w (by decide +kernel) eE291)
                      have hk0 : xQ f288 a289 N true T pl := xQ_c hk0 (eE291.1 1603 rfl) (eE291.1 1606 rfl) ⟨eE291.2.1 56 rfl, eE291.2.1 57 rfl⟩
                      have hcl292 : (a289 54 (3 * cn + 3)).toInt = ((sk277 : Nat) : Int) ∧ ∀ p, ¬ p = 3 * cn + 3 → a289 54 p = a274 54 p := by
                        have w2 : (2 : Int32).toInt = 2 := (by decide +kernel)
                        have w1 : 3 * (cn + 1 - 1) + (2 : Int32).toInt.toNat + 1 = 3 * cn + 3 := by rw [w2]; omega
                        have w3 := hw285.2.2.2
                        rw [w1] at w3
                        exact w3
                      have hrd := rd_st hrI hdk217 hzk217 (Or.inr ⟨(hw226.2.symm.trans c230), (by have w1 := hlk277; omega), hqk277, wk277, hek277, rn_w hrk277 (by decide)⟩) (eE276.2.1 52 rfl) (eE276.2.1 53 rfl) (eE276.2.1 54 rfl) (eE291.2.1 52 rfl) (eE291.2.1 53 rfl) (eE291.2.1 55 rfl) hcl292.1 hcl292.2
                      refine lv_aload_n hx hb dX4_read_116 rfl (lv_at hl 1 rfl) ?_
                      refine kIG.callW (As := []) (rest := []) ⟨hx, hb, hml, hown, hg⟩ (y_inHand l r f288 a289 g290 tx tt hT hI hG   N (ik277) true T pl hk0 (by rw [((eE291.1 1604 rfl).trans egv278.symm)]; exact hg279) hNk277) (cwV 0 hg (kgV wt3_238 wt4_0 wp1_12 wt1_7 wt4_1) rfl rfl rfl (by decide +kernel) ⟨by decide, by decide⟩) hV hK hP hD hS hA (50) 4 rfl rfl rfl hl.1 rfl (Nat.le_of_ble_eq_true rfl) dX4_read_117 ⟨Nat.le_refl _, Nat.le_refl _⟩ (fun v294 u295 H locs hw293 hP hD hS => ?_)
                      have hP : va_P D vwCl (xX K r f288 a289 g290 tx) H := hP
                      have hD : va_D A (xX K r f288 a289 g290 tx) := hD
                      have b296 : kb 0 v294 4000 := kb_eq hw293.2 (hk0.2.2.2.2.2.2 (ik277))
                      refine lv_sipush (v := 4000) hx hb dX4_read_120 (by decide) ?_
                      refine lv_icmp_ne (tgt := 128) hx hb dX4_read_123 (by decide) (fun c297 => ?_) (fun c297 => ?_)
                      · have b298 : kb 0 v294 3999 := kr_neh c297 b296 kc_4000 (by decide)
                        refine lv_aload_n hx hb dX4_read_128 rfl (lv_at hl 1 rfl) ?_
                        refine kIG.callW (As := []) (rest := []) ⟨hx, hb, hml, hown, hg⟩ (y_inHand l r f288 a289 g290 tx tt hT hI hG   N (ik277) true T pl hk0 (by rw [((eE291.1 1604 rfl).trans egv278.symm)]; exact hg279) hNk277) (cwV 0 hg (kgV wt3_238 wt4_0 wp1_12 wt1_7 wt4_1) rfl rfl rfl (by decide +kernel) ⟨by decide, by decide⟩) hV hK hP hD hS hA (50) 4 rfl rfl rfl hl.1 rfl (Nat.le_of_ble_eq_true rfl) dX4_read_129 ⟨Nat.le_refl _, Nat.le_refl _⟩ (fun v300 u301 H locs hw299 hP hD hS => ?_)
                        have hP : va_P D vwCl (xX K r f288 a289 g290 tx) H := hP
                        have hD : va_D A (xX K r f288 a289 g290 tx) := hD
                        have b302 : kb 0 v300 4000 := kb_eq hw299.2 (hk0.2.2.2.2.2.2 (ik277))
                        refine lv_sipush (v := 3059) hx hb dX4_read_132 (by decide) ?_
                        refine lv_icmp_eq (tgt := 143) hx hb dX4_read_135 (by decide) (fun c303 => ?_) (fun c303 => ?_)
                        · have b304 : kb 3059 v300 3059 := kb_eq c303 kc_3059
                          refine lv_aload_n hx hb dX4_read_143 rfl (lv_at hl 1 rfl) ?_
                          refine lv_dup hx hb dX4_read_144 rfl ?_
                          have hlt305 : ik277 < N := xQ_lt hk0 (ne_4000 (hw299.2.symm.trans c303) (by decide +kernel))
                          have b306 : kb 0 gv278 399 := kb_pos1 hlt305 hN4 hg279
                          refine va_get (D := D) (ci := 4) (v := .int (f288 1604)) (C := RX4) (T := TX4) (N := 7) hx hb hg inC4 hown hK hP 50 rfl rfl 4 (by decide) (hg _ wt2_69) (fun _ h9 => h9) rfl dX4_read_145 ?_
                          refine k_top (z := gv278) ((eE291.1 1604 rfl).trans egv278.symm) ?_
                          refine lv_iconst (v := 1) hx hb dX4_read_148 (by decide) ?_
                          refine lv_iadd hx hb dX4_read_149 ?_
                          refine lv_topi (fun t307 et307 => ?_)
                          have b308 : kb 1 t307 400 := kb_eq et307 (kb_add b306 kc_1 (by decide) (by decide))
                          have qt307 : t307.toInt = gv278.toInt + 1 := by rw [et307]; exact kt_addc b306 kc_1 (by decide) (by decide)
                          have hg309 : t307.toInt = ((ik277 + 1 : Nat) : Int) := by rw [qt307, hg279]; omega
                          refine va_put (D := D) (ci := 4) (v := .int t307) (ty := .int) (C := RX4) (T := TX4) (N := 7) hx hb hg inC4 tyX4 tyX4_ok nmX4 hown hK hP hD hS 50 rfl rfl 4 (by decide) (hg _ wt2_69) (fun _ h9 => h9) rfl (by decide +kernel) rfl rfl (Nat.le_of_ble_eq_true rfl) dX4_read_150 (fun H locs hP hD hS => ?_)
                          have hP : va_P D vwCl (xX K r (upd f288 1604 t307) a289 g290 tx) H := hP
                          have hD : va_D A (xX K r (upd f288 1604 t307) a289 g290 tx) := hD
                          refine k_gen (P := fun z => va_P D vwCl (xX K r z a289 g290 tx) H ∧ va_D A (xX K r z a289 g290 tx) ∧ (xI z a289) ∧ (gOK K g290.2 tt) ∧ (xEk ([1603, 1604, 1605, 1606, 1632, 1637], [52, 53, 54, 55, 56, 57], []) f a g z a289 g290) ∧ (xQ z a289 N true T pl)) (upd f288 1604 t307) ⟨hP, hD, (xI_f hI (fI_st hI.1 1604 (kb_any _) (by decide) (by decide))), hG, (xEk_f hE rfl), (xQ_f hk0 (by decide) (by decide))⟩ (fun f_310 ef_310 hq => ?_)
                          obtain ⟨hP, hD, hI, hG, hE, hk0⟩ := hq
                          obtain ⟨t311, et311⟩ : ∃ z : Int32, z = y188 + Int32.ofInt 1 := ⟨_, rfl⟩
                          have qt311 : t311.toInt = y188.toInt + 1 := by rw [et311]; exact km_inc b208 (by decide) (by decide)
                          have b312 : kb 1 t311 12 := kb_inc (k := 1) qt311 b208
                          refine lv_iinc (v := t311) (lv' := [(4, .int t311), (0, .ref (r 50)), (1, .ref (r 93)), (2, .int len_), (3, .int isO)]) hx hb dX4_read_153 hl (k := 0) rfl et311.symm (by decide) rfl (fun ls hl => ?_)
                          refine lv_goto (tgt := 42) hx hb dX4_read_156 (by decide) ?_
                          exact ihlp192 (ik277 + 1) (nk277) (cn + 1) (sk277) f_310 a289 g290 _ _ _ t311 (km_up hmlp192 qt311) hI hG hE hk0 (kb_w b312 (by decide) (by decide)) (by rw [(show f_310 1604 = t307 from by rw [← ef_310]; rfl)]; exact hg309) (hlt305) (⟨(by rw [((show f_310 1605 = f288 1605 from by rw [← ef_310]; rfl).trans ((eE291.1 1605 rfl).trans ez281.symm))]; exact hzz281), h3k277.2⟩) (⟨by have w1 := hvlp192_3; omega, hc12⟩) (by rw [((show f_310 1632 = f288 1632 from by rw [← ef_310]; rfl).trans ((eE291.1 1632 rfl).trans ((eE276.1 1632 rfl).trans ((show f_269 1632 = f213 1632 from by rw [← ef_269]; rfl).trans ez224.symm))))]; exact hCz224) (fun r h => xo r (c12 hc12 (pT_s (hGk217 _ (pi_12y (hw226.2.symm.trans c230) hGk277)) (Or.inl ⟨(hw299.2.symm.trans c303), h⟩)))) (by show (f_310 1637).toInt = ((sk277 : Nat) : Int); rw [((show f_310 1637 = f288 1637 from by rw [← ef_310]; rfl).trans ((eE291.1 1637 rfl).trans ezs283.symm))]; exact hzzs283) (by have w1 := hrd.1; omega) (rd_nx (so := so) hrd.2 hcl292.1 (hw299.2.symm.trans c303)) hP hD hS (lv_sub hl [0, 1, 2, 3, 4] rfl)
                        · refine lv_aload_n hx hb dX4_read_138 rfl (lv_at hl 1 rfl) ?_
                          refine kIG.callW (As := []) (rest := []) ⟨hx, hb, hml, hown, hg⟩ (y_placeInHand l r f288 a289 g290 tx tt hT hI hG   N (ik277) true T pl hk0 (by rw [((eE291.1 1604 rfl).trans egv278.symm)]; exact hg279) hNk277) (cwV 0 hg (kgV wt4_46 wt4_48 wp2_4 wt1_7 wt4_49) rfl rfl rfl (by decide +kernel) ⟨by decide, by decide⟩) hV hK hP hD hS hA (50) 4 rfl rfl rfl hl.1 rfl (Nat.le_of_ble_eq_true rfl) dX4_read_139 ⟨Nat.le_refl _, Nat.le_refl _⟩ (fun v314 u315 H locs hw313 hP hD hS => ?_)
                          have hP : va_P D vwCl (xX K r f288 a289 g290 tx) H := hP
                          have hD : va_D A (xX K r f288 a289 g290 tx) := hD
                          exact kI_ret (v := v314) hx hb hr hlocks rfl hK hS dX4_read_142 (f288, a289, g290) hP hD ⟨(kb_any v314), hI, hG, hE, ⟨false, ⟨N, ik277, hsp.1, hsp.2.1, (by rw [← hTd]; exact xo _ (c12 hc12 (pT_s (hGk217 _ (pi_12y (hw226.2.symm.trans c230) hGk277)) (Or.inr (Or.inl ⟨(fun q => c303 (hw299.2.trans q)), xQ_lt hk0 (fun q => c297 (hw293.2.trans q)), rfl⟩))))), (hw313.2.trans (congrFun hpd _))⟩, fun q => absurd q (by decide)⟩⟩
                      · have b316 : kb 4000 v294 4000 := kb_eq c297 kc_4000
                        refine lv_iconst (v := (-1)) hx hb dX4_read_126 (by decide) ?_
                        exact kI_ret (v := (-1)) hx hb hr hlocks rfl hK hS dX4_read_127 (f288, a289, g290) hP hD ⟨(kb_w kc_m1 (by decide) (by decide)), hI, hG, hE, ⟨true, ⟨N, ik277, hsp.1, hsp.2.1, (by rw [← hTd]; exact xo _ (c12 hc12 (pT_s (hGk217 _ (pi_12y (hw226.2.symm.trans c230) hGk277)) (Or.inr (Or.inr ⟨(fun q => absurd ((hw293.2.symm.trans c297).symm.trans q) (by decide +kernel)), tk_end hsp.2.1 (by rw [← hTd]; exact (hw293.2.symm.trans c297)), rfl⟩))))), rfl⟩, fun _ => ⟨N, cn + 1, sk277, (by show (f288 1632).toInt = ((cn + 1 : Nat) : Int); rw [((eE291.1 1632 rfl).trans ((eE276.1 1632 rfl).trans ((show f_269 1632 = f213 1632 from by rw [← ef_269]; rfl).trans ez224.symm)))]; exact hCz224), (by show (f288 1637).toInt = ((sk277 : Nat) : Int); rw [((eE291.1 1637 rfl).trans ezs283.symm)]; exact hzzs283), (by have w1 := hrd.1; have w2 := hNk277; omega), hsp.1, hsp.2.1, (by rw [← hTd]; exact rd_fin (so := so) hrd.2 hc12 (by have w1 := tk_end (j := ik277) hsp.2.1 (by rw [← hTd]; exact (hw293.2.symm.trans c297)); have w2 := hNk277; omega))⟩⟩⟩
                    · exact kb_dj c284 kc_1 kc_0 (by decide)
                  · refine k_top (z := 0) hvk277 ?_
                    obtain ⟨gv317, egv317⟩ : ∃ z : Int32, z = f273 1604 := ⟨_, rfl⟩
                    have hg318 : gv317.toInt = ((ik277 : Nat) : Int) := by rw [egv317]; exact hgk277
                    have b319 : kb 0 gv317 400 := kb_pos hNk277 hN4 hg318
                    refine lv_if_ne (tgt := 108) hx hb dX4_read_100 (by decide) (fun c320 => ?_) (fun c320 => ?_)
                    · exact kb_nsame c320 kc_0 kc_0
                    · refine lv_aload_n hx hb dX4_read_103 rfl (lv_at hl 1 rfl) ?_
                      refine kIG.callW (As := []) (rest := []) ⟨hx, hb, hml, hown, hg⟩ (y_placeInHand l r f273 a274 g275 tx tt hT hI hG   N (ik277) true T pl hk0 (by rw [egv317.symm]; exact hg318) hNk277) (cwV 0 hg (kgV wt4_46 wt4_48 wp2_4 wt1_7 wt4_49) rfl rfl rfl (by decide +kernel) ⟨by decide, by decide⟩) hV hK hP hD hS hA (50) 4 rfl rfl rfl hl.1 rfl (Nat.le_of_ble_eq_true rfl) dX4_read_104 ⟨Nat.le_refl _, Nat.le_refl _⟩ (fun v322 u323 H locs hw321 hP hD hS => ?_)
                      have hP : va_P D vwCl (xX K r f273 a274 g275 tx) H := hP
                      have hD : va_D A (xX K r f273 a274 g275 tx) := hD
                      exact kI_ret (v := v322) hx hb hr hlocks rfl hK hS dX4_read_107 (f273, a274, g275) hP hD ⟨(kb_any v322), hI, hG, hE, ⟨false, ⟨N, ik277, hsp.1, hsp.2.1, (by rw [← hTd]; exact xo _ (c12 hc12 (pT_f (hGk217 _ (pi_12y (hw226.2.symm.trans c230) hGk277))))), (hw321.2.trans (congrFun hpd _))⟩, fun q => absurd q (by decide)⟩⟩
            · refine k_top (z := 0) hvk217 ?_
              obtain ⟨gv324, egv324⟩ : ∃ z : Int32, z = f213 1604 := ⟨_, rfl⟩
              have hg325 : gv324.toInt = ((ik217 : Nat) : Int) := by rw [egv324]; exact hgk217
              have b326 : kb 0 gv324 400 := kb_pos hNk217 hN4 hg325
              refine lv_if_eq (tgt := 70) hx hb dX4_read_57 (by decide) (fun c327 => ?_) (fun c327 => ?_)
              · refine lv_aload_n hx hb dX4_read_70 rfl (lv_at hl 1 rfl) ?_
                refine kIG.callW (As := []) (rest := []) ⟨hx, hb, hml, hown, hg⟩ (y_placeInHand l r f213 a214 g215 tx tt hT hI hG   N (ik217) true T pl hk0 (by rw [egv324.symm]; exact hg325) hNk217) (cwV 0 hg (kgV wt4_46 wt4_48 wp2_4 wt1_7 wt4_49) rfl rfl rfl (by decide +kernel) ⟨by decide, by decide⟩) hV hK hP hD hS hA (50) 4 rfl rfl rfl hl.1 rfl (Nat.le_of_ble_eq_true rfl) dX4_read_71 ⟨Nat.le_refl _, Nat.le_refl _⟩ (fun v329 u330 H locs hw328 hP hD hS => ?_)
                have hP : va_P D vwCl (xX K r f213 a214 g215 tx) H := hP
                have hD : va_D A (xX K r f213 a214 g215 tx) := hD
                exact kI_ret (v := v329) hx hb hr hlocks rfl hK hS dX4_read_74 (f213, a214, g215) hP hD ⟨(kb_any v329), hI, hG, hE, ⟨false, ⟨N, ik217, hsp.1, hsp.2.1, (by rw [← hTd]; exact xo _ (c12 hc12 (pT_f hGk217))), (hw328.2.trans (congrFun hpd _))⟩, fun q => absurd q (by decide)⟩⟩
              · exact kb_nsame c327 kc_0 kc_0
    exact lp192 (13) (0) (0) 0 (0) f_187 a182 g183 _ _ _ 0 (by have h1 := (kc_0); unfold kb at h1; omega) hI hG hE hk0 (kb_w kc_0 (by decide) (by decide)) (by rw [((show f_187 1604 = f_186 1604 from by rw [← ef_187]; rfl).trans ((show f_186 1604 = f_185 1604 from by rw [← ef_186]; rfl).trans (show f_185 1604 = 0 from by rw [← ef_185]; rfl)))]; exact (by decide +kernel)) ((Nat.zero_le N)) (⟨(by rw [((show f_187 1605 = f_186 1605 from by rw [← ef_187]; rfl).trans (show f_186 1605 = 0 from by rw [← ef_186]; rfl))]; exact (by decide +kernel)), (by decide)⟩) (⟨by decide +kernel, by decide⟩) (by rw [((show f_187 1632 = f_186 1632 from by rw [← ef_187]; rfl).trans ((show f_186 1632 = f_185 1632 from by rw [← ef_186]; rfl).trans ((show f_185 1632 = f181 1632 from by rw [← ef_185]; rfl).trans hw178.2.2.2.1)))]; decide +kernel) (fun r h => h) (by show (f_187 1637).toInt = ((0 : Nat) : Int); rw [((show f_187 1637 = f_186 1637 from by rw [← ef_187]; rfl).trans ((show f_186 1637 = f_185 1637 from by rw [← ef_186]; rfl).trans ((show f_185 1637 = f181 1637 from by rw [← ef_185]; rfl).trans hw178.2.2.2.2.1)))]; exact (by decide +kernel)) (Nat.le_refl 0) (⟨((0, (fun _ => 0), (fun _ => 0), (fun _ => 0), (fun _ => e1), (fun _ => e1), (fun _ => e1)) : tE), rfl, rfl, hw178.2.2.2.2.2, fun c hc => absurd hc (Nat.not_lt_zero c)⟩) hP hD hS (lv_sub hl [0, 1, 2, 3, 4] rfl)
