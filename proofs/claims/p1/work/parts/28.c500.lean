set_option maxHeartbeats 4000000 in
set_option maxRecDepth 100000 in
theorem x_copyFromL_t218 (l : Launch) {D : va_G} {K : Nat → ClassId} {r : Nat → Nat}  {p : Program} {e : Env} {s : State} {m : MethodId} {below : List Frame} {meth : Method} {c : Code} {A : Nat → Prop} (hx : p.tables.exec = Jvm.exec) (hb : c.code = cX7_copyFrom) (hr : meth.sig.returnType = none) (hml : c.maxLocals = 3) (hown : s.vm.findClass RX7 = some m.cls) (hg : ∀ w ∈ kG, w.before ([.ref (r 59), .ref (r 1)] : List Value).toArray s = true) (hlocks : meth.locks = false) (hK : va_K D vwCl (tysK K) s) (hA : ∀ q, s.heap.size ≤ q → A q) (F : Nat → Int32) (B : Nat → Nat → Int32) (G : xG) (H : Heap) (locs : List Loc) (ls : Array Slot) (z0 : F 32 = 0) (z1 : F 38 = 0) (z2 : F 44 = 0) (z3 : B 11 0 = 0) (z4 : B 11 1 = 30) (z5 : B 11 2 = 2) (z6 : F 1858 = (-1)) (z7 : F 50 = (-1)) (z8 : (∀ i, G.2 15 i = none)) (z9 : B 84 0 = (-1)) (z10 : B 84 1 = (-1)) (z11 : B 84 2 = (-1)) (z12 : F 1888 = 0) (z13 : F 1894 = 0) (z14 : B 69 0 = 0) (z15 : B 69 1 = 30) (z16 : B 69 2 = 2) (hP : va_P D vwCl (xW K r F B G) H) (hD : va_D A (xW K r F B G)) (hS : va_S A s.heap H locs) (hl : lv_has ls 3 [(0, .ref (r 59)), (1, .ref (r 1))]) : W p l e (rmD 2 0 0) s m ([.ref (r 59), .ref (r 1)] : List Value).toArray below meth c H locs 0 0 (kQv D (tysK K) (fun (u : xS) => u.1 32 = 0 ∧ u.1 38 = 0 ∧ u.1 44 = 0 ∧ u.2.1 11 0 = 0 ∧ u.2.1 11 1 = 30 ∧ u.2.1 11 2 = 2 ∧ u.1 1858 = (-1) ∧ u.1 50 = (-1) ∧ (∀ i, u.2.2.2 15 i = none) ∧ u.2.1 84 0 = (-1) ∧ u.2.1 84 1 = (-1) ∧ u.2.1 84 2 = (-1) ∧ u.1 1888 = 0 ∧ u.1 1894 = 0 ∧ u.2.1 69 0 = 0 ∧ u.2.1 69 1 = 30 ∧ u.2.1 69 2 = 2 ∧ u.1 1906 = (-1)) (fun u => xW K r u.1 u.2.1 u.2.2) A below ([.ref (r 59), .ref (r 1)] : List Value).toArray s 0 0) (F0 m 218 ls []) := by
  refine lv_iconst (v := 0) hx hb dX7_copyFrom_218 (by decide) ?_
  refine lv_istore_n (lv' := [(2, .int 0), (0, .ref (r 59)), (1, .ref (r 1))]) hx hb dX7_copyFrom_219 rfl hl (by decide) rfl (fun ls hl => ?_)
  have lp17 : ∀ (n i : Nat) (F : Nat → Int32) (B : Nat → Nat → Int32) (G : xG) (H : Heap) (locs : List Loc) (ls : Array Slot), i + n = 6 →  F 32 = 0 → F 38 = 0 → F 44 = 0 → B 11 0 = 0 → B 11 1 = 30 → B 11 2 = 2 → F 1858 = (-1) → F 50 = (-1) → (∀ i, G.2 15 i = none) → B 84 0 = (-1) → B 84 1 = (-1) → B 84 2 = (-1) → F 1888 = 0 → F 1894 = 0 → B 69 0 = 0 → B 69 1 = 30 → B 69 2 = 2 → va_P D vwCl (xW K r F B G) H → va_D A (xW K r F B G) → va_S A s.heap H locs → lv_has ls 3 [(2, .int (nI i)), (0, .ref (r 59)), (1, .ref (r 1))] → W p l e (rmD 2 0 0) s m ([.ref (r 59), .ref (r 1)] : List Value).toArray below meth c H locs 0 0 (kQv D (tysK K) (fun (u : xS) => u.1 32 = 0 ∧ u.1 38 = 0 ∧ u.1 44 = 0 ∧ u.2.1 11 0 = 0 ∧ u.2.1 11 1 = 30 ∧ u.2.1 11 2 = 2 ∧ u.1 1858 = (-1) ∧ u.1 50 = (-1) ∧ (∀ i, u.2.2.2 15 i = none) ∧ u.2.1 84 0 = (-1) ∧ u.2.1 84 1 = (-1) ∧ u.2.1 84 2 = (-1) ∧ u.1 1888 = 0 ∧ u.1 1894 = 0 ∧ u.2.1 69 0 = 0 ∧ u.2.1 69 1 = 30 ∧ u.2.1 69 2 = 2 ∧ u.1 1906 = (-1)) (fun u => xW K r u.1 u.2.1 u.2.2) A below ([.ref (r 59), .ref (r 1)] : List Value).toArray s 0 0) (F0 m 220 ls []) := by
    intro n
    induction n with
    | zero =>
      intro i F B G H locs ls  hin  z0 z1 z2 z3 z4 z5 z6 z7 z8 z9 z10 z11 z12 z13 z14 z15 z16 hP hD hS hl
      obtain rfl : 6 = i := by omega
      have hl : lv_has ls 3 [(2, .int 6), (0, .ref (r 59)), (1, .ref (r 1))] := hl
      refine lv_iload_n hx hb dX7_copyFrom_220 rfl (lv_at hl 0 rfl) ?_
      refine lv_bipush (v := 6) hx hb dX7_copyFrom_221 (by decide) ?_
      refine lv_icmp_ge (tgt := 244) hx hb dX7_copyFrom_223 (by decide) (fun c18 => ?_) (fun c18 => absurd (by decide +kernel) c18)
      refine lv_aload_n hx hb dX7_copyFrom_244 rfl (lv_at hl 1 rfl) ?_
      refine lv_aload_n hx hb dX7_copyFrom_245 rfl (lv_at hl 2 rfl) ?_
      refine va_get (D := D) (ci := 7) (v := .int (F 49)) (C := RX7) (T := TX7) (N := 20) hx hb hg inC7 hown hK hP 1 rfl rfl 17 (by decide) (hg _ wt1_149) (fun _ h9 => h9) rfl dX7_copyFrom_246 ?_
      refine lv_topi (fun t19 et19 => ?_)
      refine va_put (D := D) (ci := 7) (v := .int t19) (ty := .int) (C := RX7) (T := TX7) (N := 20) hx hb hg inC7 tyX7 tyX7_ok nmX7 hown hK hP hD hS 59 rfl rfl 17 (by decide) (hg _ wt1_149) (fun _ h9 => h9) rfl (by decide +kernel) rfl rfl (Nat.le_of_ble_eq_true rfl) dX7_copyFrom_249 (fun H locs hP hD hS => ?_)
      have hP : va_P D vwCl (xW K r (upd F 1905 t19) B G) H := hP
      have hD : va_D A (xW K r (upd F 1905 t19) B G) := hD
      refine k_gen (P := fun z => va_P D vwCl (xW K r z B G) H ∧ va_D A (xW K r z B G)) (upd F 1905 t19) ⟨hP, hD⟩ (fun f_20 ef_20 hPD => ?_)
      have hP := hPD.1
      have hD := hPD.2
      refine lv_aload_n hx hb dX7_copyFrom_252 rfl (lv_at hl 1 rfl) ?_
      refine lv_aload_n hx hb dX7_copyFrom_253 rfl (lv_at hl 2 rfl) ?_
      refine va_get (D := D) (ci := 7) (v := .int (f_20 50)) (C := RX7) (T := TX7) (N := 20) hx hb hg inC7 hown hK hP 1 rfl rfl 18 (by decide) (hg _ wt1_151) (fun _ h9 => h9) rfl dX7_copyFrom_254 ?_
      refine k_top (z := (-1)) ((show f_20 50 = F 50 from by rw [← ef_20]; rfl).trans z7) ?_
      refine va_put (D := D) (ci := 7) (v := .int (-1)) (ty := .int) (C := RX7) (T := TX7) (N := 20) hx hb hg inC7 tyX7 tyX7_ok nmX7 hown hK hP hD hS 59 rfl rfl 18 (by decide) (hg _ wt1_151) (fun _ h9 => h9) rfl (by decide +kernel) rfl rfl (Nat.le_of_ble_eq_true rfl) dX7_copyFrom_257 (fun H locs hP hD hS => ?_)
      have hP : va_P D vwCl (xW K r (upd f_20 1906 (-1)) B G) H := hP
      have hD : va_D A (xW K r (upd f_20 1906 (-1)) B G) := hD
      refine k_gen (P := fun z => va_P D vwCl (xW K r z B G) H ∧ va_D A (xW K r z B G)) (upd f_20 1906 (-1)) ⟨hP, hD⟩ (fun f_21 ef_21 hPD => ?_)
      have hP := hPD.1
      have hD := hPD.2
      exact kV_ret hx hb hr hlocks hK hS dX7_copyFrom_260 (f_21, B, G) hP hD ⟨((show f_21 32 = f_20 32 from by rw [← ef_21]; rfl).trans ((show f_20 32 = F 32 from by rw [← ef_20]; rfl).trans z0)), ((show f_21 38 = f_20 38 from by rw [← ef_21]; rfl).trans ((show f_20 38 = F 38 from by rw [← ef_20]; rfl).trans z1)), ((show f_21 44 = f_20 44 from by rw [← ef_21]; rfl).trans ((show f_20 44 = F 44 from by rw [← ef_20]; rfl).trans z2)), z3, z4, z5, ((show f_21 1858 = f_20 1858 from by rw [← ef_21]; rfl).trans ((show f_20 1858 = F 1858 from by rw [← ef_20]; rfl).trans z6)), ((show f_21 50 = f_20 50 from by rw [← ef_21]; rfl).trans ((show f_20 50 = F 50 from by rw [← ef_20]; rfl).trans z7)), z8, z9, z10, z11, ((show f_21 1888 = f_20 1888 from by rw [← ef_21]; rfl).trans ((show f_20 1888 = F 1888 from by rw [← ef_20]; rfl).trans z12)), ((show f_21 1894 = f_20 1894 from by rw [← ef_21]; rfl).trans ((show f_20 1894 = F 1894 from by rw [← ef_20]; rfl).trans z13)), z14, z15, z16, (show f_21 1906 = (-1) from by rw [← ef_21]; rfl)⟩
    | succ n ih =>
      intro i F B G H locs ls  hin  z0 z1 z2 z3 z4 z5 z6 z7 z8 z9 z10 z11 z12 z13 z14 z15 z16 hP hD hS hl
      have hlt : i < 6 := by omega
      refine lv_iload_n hx hb dX7_copyFrom_220 rfl (lv_at hl 0 rfl) ?_
      refine lv_bipush (v := 6) hx hb dX7_copyFrom_221 (by decide) ?_
      refine lv_icmp_ge (tgt := 244) hx hb dX7_copyFrom_223 (by decide) (fun c22 => absurd c22 (nI_ge (b := 6) hlt (by decide))) (fun c22 => ?_)
      refine lv_aload_n hx hb dX7_copyFrom_226 rfl (lv_at hl 1 rfl) ?_
      refine va_get (D := D) (ci := 7) (v := .ref (r 73)) (C := RX7) (T := TX7) (N := 20) hx hb hg inC7 hown hK hP 59 rfl rfl 16 (by decide) (hg _ wt1_147) (fun _ h9 => h9) rfl dX7_copyFrom_227 ?_
      refine lv_iload_n hx hb dX7_copyFrom_230 rfl (lv_at hl 0 rfl) ?_
      refine lv_aload_n hx hb dX7_copyFrom_231 rfl (lv_at hl 2 rfl) ?_
      refine va_get (D := D) (ci := 7) (v := .ref (r 15)) (C := RX7) (T := TX7) (N := 20) hx hb hg inC7 hown hK hP 1 rfl rfl 16 (by decide) (hg _ wt1_147) (fun _ h9 => h9) rfl dX7_copyFrom_232 ?_
      refine lv_iload_n hx hb dX7_copyFrom_235 rfl (lv_at hl 0 rfl) ?_
      refine va_aldq hx hb hK hP 15 5 rfl rfl (vp_in_nI (by omega) (by decide)) dX7_copyFrom_236 ?_
      rw [nI_clamp (n := i) (by omega)]
      refine k_topn (z8 i) ?_
      refine va_astqN hx hb hK hP hD hS 73 5 rfl rfl (vp_in_nI (by omega) (by decide)) dX7_copyFrom_237 (fun H locs hP hD hS => ?_)
      rw [nI_clamp (n := i) (by omega)] at hP hD
      have hP : va_P D vwCl (xW K r F B (G.1, va_up G.2 73 (va_up (G.2 73) i none))) H := hP
      have hD : va_D A (xW K r F B (G.1, va_up G.2 73 (va_up (G.2 73) i none))) := hD
      refine k_gen (P := fun z => va_P D vwCl (xW K r F B z) H ∧ va_D A (xW K r F B z)) (G.1, va_up G.2 73 (va_up (G.2 73) i none)) ⟨hP, hD⟩ (fun g_23 eg_23 hPD => ?_)
      have hP := hPD.1
      have hD := hPD.2
      refine lv_iinc (v := nI (i + 1)) (lv' := [(2, .int (nI (i + 1))), (0, .ref (r 59)), (1, .ref (r 1))]) hx hb dX7_copyFrom_238 hl (k := 0) rfl (nI_1 _) (by decide) rfl (fun ls hl => ?_)
      refine lv_goto (tgt := 220) hx hb dX7_copyFrom_241 (by decide) ?_
      exact ih (i + 1) F B g_23 _ _ _  (by omega)  z0 z1 z2 z3 z4 z5 z6 z7 (by rw [← eg_23]; exact z8) z9 z10 z11 z12 z13 z14 z15 z16 hP hD hS (lv_sub hl [0, 1, 2] rfl)
  exact lp17 (6 - 0) 0 F B G _ _ _  (by omega)  z0 z1 z2 z3 z4 z5 z6 z7 z8 z9 z10 z11 z12 z13 z14 z15 z16 hP hD hS hl
set_option maxHeartbeats 4000000 in
set_option maxRecDepth 100000 in
theorem x_copyFromL_t151 (l : Launch) {D : va_G} {K : Nat → ClassId} {r : Nat → Nat}  {p : Program} {e : Env} {s : State} {m : MethodId} {below : List Frame} {meth : Method} {c : Code} {A : Nat → Prop} (hx : p.tables.exec = Jvm.exec) (hb : c.code = cX7_copyFrom) (hr : meth.sig.returnType = none) (hml : c.maxLocals = 3) (hown : s.vm.findClass RX7 = some m.cls) (hg : ∀ w ∈ kG, w.before ([.ref (r 59), .ref (r 1)] : List Value).toArray s = true) (hlocks : meth.locks = false) (hK : va_K D vwCl (tysK K) s) (hA : ∀ q, s.heap.size ≤ q → A q) (F : Nat → Int32) (B : Nat → Nat → Int32) (G : xG) (H : Heap) (locs : List Loc) (ls : Array Slot) (z0 : F 32 = 0) (z1 : F 38 = 0) (z2 : F 44 = 0) (z3 : B 11 0 = 0) (z4 : B 11 1 = 30) (z5 : B 11 2 = 2) (z6 : F 1858 = (-1)) (z7 : F 50 = (-1)) (z8 : (∀ i, G.2 15 i = none)) (z9 : B 84 0 = (-1)) (z10 : B 84 1 = (-1)) (z11 : B 84 2 = (-1)) (z12 : F 1888 = 0) (z13 : F 1894 = 0) (hP : va_P D vwCl (xW K r F B G) H) (hD : va_D A (xW K r F B G)) (hS : va_S A s.heap H locs) (hl : lv_has ls 3 [(0, .ref (r 59)), (1, .ref (r 1))]) : W p l e (rmD 2 0 0) s m ([.ref (r 59), .ref (r 1)] : List Value).toArray below meth c H locs 0 0 (kQv D (tysK K) (fun (u : xS) => u.1 32 = 0 ∧ u.1 38 = 0 ∧ u.1 44 = 0 ∧ u.2.1 11 0 = 0 ∧ u.2.1 11 1 = 30 ∧ u.2.1 11 2 = 2 ∧ u.1 1858 = (-1) ∧ u.1 50 = (-1) ∧ (∀ i, u.2.2.2 15 i = none) ∧ u.2.1 84 0 = (-1) ∧ u.2.1 84 1 = (-1) ∧ u.2.1 84 2 = (-1) ∧ u.1 1888 = 0 ∧ u.1 1894 = 0 ∧ u.2.1 69 0 = 0 ∧ u.2.1 69 1 = 30 ∧ u.2.1 69 2 = 2 ∧ u.1 1906 = (-1)) (fun u => xW K r u.1 u.2.1 u.2.2) A below ([.ref (r 59), .ref (r 1)] : List Value).toArray s 0 0) (F0 m 151 ls []) := by
  refine lv_aload_n hx hb dX7_copyFrom_151 rfl (lv_at hl 1 rfl) ?_
  refine va_get (D := D) (ci := 7) (v := .ref (r 11)) (C := RX7) (T := TX7) (N := 20) hx hb hg inC7 hown hK hP 1 rfl rfl 11 (by decide) (hg _ wt1_127) (fun _ h9 => h9) rfl dX7_copyFrom_152 ?_
  refine lv_iconst (v := 0) hx hb dX7_copyFrom_155 (by decide) ?_
  refine lv_aload_n hx hb dX7_copyFrom_156 rfl (lv_at hl 0 rfl) ?_
  refine va_get (D := D) (ci := 7) (v := .ref (r 69)) (C := RX7) (T := TX7) (N := 20) hx hb hg inC7 hown hK hP 59 rfl rfl 11 (by decide) (hg _ wt1_127) (fun _ h9 => h9) rfl dX7_copyFrom_157 ?_
  refine lv_iconst (v := 0) hx hb dX7_copyFrom_160 (by decide) ?_
  refine lv_iconst (v := 4) hx hb dX7_copyFrom_161 (by decide) ?_
  refine va_copyi (ty := .int) hx hb (hml.trans hl.1.symm) hown (hg _ wt4_83) (hg _ wt4_70) (hg _ wt4_69) (hg _ wt1_20) hK hP hD hS 11 69 0 0 rfl rfl rfl rfl rfl (by decide) (by decide) (by decide) (by decide +kernel) (by decide +kernel) (fun i _ => rfl) (by decide) (Nat.le_of_ble_eq_true rfl) dX7_copyFrom_162 (fun H locs hP hD hS => ?_)
  rw [cl_0] at hP hD
  rw [cl_4] at hP hD
  have hP : va_P D vwCl (xW K r F (va_up B 69 (va_cpy (B 11) (B 69) 0 0 4)) G) H := hP
  have hD : va_D A (xW K r F (va_up B 69 (va_cpy (B 11) (B 69) 0 0 4)) G) := hD
  refine k_gen (P := fun z => va_P D vwCl (xW K r F z G) H ∧ va_D A (xW K r F z G)) (va_up B 69 (va_cpy (B 11) (B 69) 0 0 4)) ⟨hP, hD⟩ (fun a_12 ea_12 hPD => ?_)
  have hP := hPD.1
  have hD := hPD.2
  refine lv_aload_n hx hb dX7_copyFrom_165 rfl (lv_at hl 0 rfl) ?_
  refine lv_aload_n hx hb dX7_copyFrom_166 rfl (lv_at hl 1 rfl) ?_
  refine va_get (D := D) (ci := 7) (v := .int (F 44)) (C := RX7) (T := TX7) (N := 20) hx hb hg inC7 hown hK hP 1 rfl rfl 12 (by decide) (hg _ wt1_135) (fun _ h9 => h9) rfl dX7_copyFrom_167 ?_
  refine k_top (z := 0) z2 ?_
  refine va_put (D := D) (ci := 7) (v := .int 0) (ty := .int) (C := RX7) (T := TX7) (N := 20) hx hb hg inC7 tyX7 tyX7_ok nmX7 hown hK hP hD hS 59 rfl rfl 12 (by decide) (hg _ wt1_135) (fun _ h9 => h9) rfl (by decide +kernel) rfl rfl (Nat.le_of_ble_eq_true rfl) dX7_copyFrom_170 (fun H locs hP hD hS => ?_)
  have hP : va_P D vwCl (xW K r (upd F 1900 0) a_12 G) H := hP
  have hD : va_D A (xW K r (upd F 1900 0) a_12 G) := hD
  refine k_gen (P := fun z => va_P D vwCl (xW K r z a_12 G) H ∧ va_D A (xW K r z a_12 G)) (upd F 1900 0) ⟨hP, hD⟩ (fun f_13 ef_13 hPD => ?_)
  have hP := hPD.1
  have hD := hPD.2
  refine lv_aload_n hx hb dX7_copyFrom_173 rfl (lv_at hl 1 rfl) ?_
  refine va_get (D := D) (ci := 7) (v := .ref (r 12)) (C := RX7) (T := TX7) (N := 20) hx hb hg inC7 hown hK hP 1 rfl rfl 13 (by decide) (hg _ wt1_138) (fun _ h9 => h9) rfl dX7_copyFrom_174 ?_
  refine lv_iconst (v := 0) hx hb dX7_copyFrom_177 (by decide) ?_
  refine lv_aload_n hx hb dX7_copyFrom_178 rfl (lv_at hl 0 rfl) ?_
  refine va_get (D := D) (ci := 7) (v := .ref (r 70)) (C := RX7) (T := TX7) (N := 20) hx hb hg inC7 hown hK hP 59 rfl rfl 13 (by decide) (hg _ wt1_138) (fun _ h9 => h9) rfl dX7_copyFrom_179 ?_
  refine lv_iconst (v := 0) hx hb dX7_copyFrom_182 (by decide) ?_
  refine lv_bipush (v := 8) hx hb dX7_copyFrom_183 (by decide) ?_
  refine va_copyi (ty := .int) hx hb (hml.trans hl.1.symm) hown (hg _ wt4_83) (hg _ wt4_70) (hg _ wt4_69) (hg _ wt1_20) hK hP hD hS 12 70 0 0 rfl rfl rfl rfl rfl (by decide) (by decide) (by decide) (by decide +kernel) (by decide +kernel) (fun i _ => rfl) (by decide) (Nat.le_of_ble_eq_true rfl) dX7_copyFrom_185 (fun H locs hP hD hS => ?_)
  rw [cl_0] at hP hD
  rw [cl_8] at hP hD
  have hP : va_P D vwCl (xW K r f_13 (va_up a_12 70 (va_cpy (a_12 12) (a_12 70) 0 0 8)) G) H := hP
  have hD : va_D A (xW K r f_13 (va_up a_12 70 (va_cpy (a_12 12) (a_12 70) 0 0 8)) G) := hD
  refine k_gen (P := fun z => va_P D vwCl (xW K r f_13 z G) H ∧ va_D A (xW K r f_13 z G)) (va_up a_12 70 (va_cpy (a_12 12) (a_12 70) 0 0 8)) ⟨hP, hD⟩ (fun a_14 ea_14 hPD => ?_)
  have hP := hPD.1
  have hD := hPD.2
  refine lv_aload_n hx hb dX7_copyFrom_188 rfl (lv_at hl 1 rfl) ?_
  refine va_get (D := D) (ci := 7) (v := .ref (r 13)) (C := RX7) (T := TX7) (N := 20) hx hb hg inC7 hown hK hP 1 rfl rfl 14 (by decide) (hg _ wt1_141) (fun _ h9 => h9) rfl dX7_copyFrom_189 ?_
  refine lv_iconst (v := 0) hx hb dX7_copyFrom_192 (by decide) ?_
  refine lv_aload_n hx hb dX7_copyFrom_193 rfl (lv_at hl 0 rfl) ?_
  refine va_get (D := D) (ci := 7) (v := .ref (r 71)) (C := RX7) (T := TX7) (N := 20) hx hb hg inC7 hown hK hP 59 rfl rfl 14 (by decide) (hg _ wt1_141) (fun _ h9 => h9) rfl dX7_copyFrom_194 ?_
  refine lv_iconst (v := 0) hx hb dX7_copyFrom_197 (by decide) ?_
  refine lv_bipush (v := 8) hx hb dX7_copyFrom_198 (by decide) ?_
  refine va_copyi (ty := .int) hx hb (hml.trans hl.1.symm) hown (hg _ wt4_83) (hg _ wt4_70) (hg _ wt4_69) (hg _ wt1_20) hK hP hD hS 13 71 0 0 rfl rfl rfl rfl rfl (by decide) (by decide) (by decide) (by decide +kernel) (by decide +kernel) (fun i _ => rfl) (by decide) (Nat.le_of_ble_eq_true rfl) dX7_copyFrom_200 (fun H locs hP hD hS => ?_)
  rw [cl_0] at hP hD
  rw [cl_8] at hP hD
  have hP : va_P D vwCl (xW K r f_13 (va_up a_14 71 (va_cpy (a_14 13) (a_14 71) 0 0 8)) G) H := hP
  have hD : va_D A (xW K r f_13 (va_up a_14 71 (va_cpy (a_14 13) (a_14 71) 0 0 8)) G) := hD
  refine k_gen (P := fun z => va_P D vwCl (xW K r f_13 z G) H ∧ va_D A (xW K r f_13 z G)) (va_up a_14 71 (va_cpy (a_14 13) (a_14 71) 0 0 8)) ⟨hP, hD⟩ (fun a_15 ea_15 hPD => ?_)
  have hP := hPD.1
  have hD := hPD.2
  refine lv_aload_n hx hb dX7_copyFrom_203 rfl (lv_at hl 1 rfl) ?_
  refine va_get (D := D) (ci := 7) (v := .ref (r 14)) (C := RX7) (T := TX7) (N := 20) hx hb hg inC7 hown hK hP 1 rfl rfl 15 (by decide) (hg _ wt1_144) (fun _ h9 => h9) rfl dX7_copyFrom_204 ?_
  refine lv_iconst (v := 0) hx hb dX7_copyFrom_207 (by decide) ?_
  refine lv_aload_n hx hb dX7_copyFrom_208 rfl (lv_at hl 0 rfl) ?_
  refine va_get (D := D) (ci := 7) (v := .ref (r 72)) (C := RX7) (T := TX7) (N := 20) hx hb hg inC7 hown hK hP 59 rfl rfl 15 (by decide) (hg _ wt1_144) (fun _ h9 => h9) rfl dX7_copyFrom_209 ?_
  refine lv_iconst (v := 0) hx hb dX7_copyFrom_212 (by decide) ?_
  refine lv_bipush (v := 8) hx hb dX7_copyFrom_213 (by decide) ?_
  refine va_copyi (ty := .int) hx hb (hml.trans hl.1.symm) hown (hg _ wt4_83) (hg _ wt4_70) (hg _ wt4_69) (hg _ wt1_20) hK hP hD hS 14 72 0 0 rfl rfl rfl rfl rfl (by decide) (by decide) (by decide) (by decide +kernel) (by decide +kernel) (fun i _ => rfl) (by decide) (Nat.le_of_ble_eq_true rfl) dX7_copyFrom_215 (fun H locs hP hD hS => ?_)
  rw [cl_0] at hP hD
  rw [cl_8] at hP hD
  have hP : va_P D vwCl (xW K r f_13 (va_up a_15 72 (va_cpy (a_15 14) (a_15 72) 0 0 8)) G) H := hP
  have hD : va_D A (xW K r f_13 (va_up a_15 72 (va_cpy (a_15 14) (a_15 72) 0 0 8)) G) := hD
  refine k_gen (P := fun z => va_P D vwCl (xW K r f_13 z G) H ∧ va_D A (xW K r f_13 z G)) (va_up a_15 72 (va_cpy (a_15 14) (a_15 72) 0 0 8)) ⟨hP, hD⟩ (fun a_16 ea_16 hPD => ?_)
  have hP := hPD.1
  have hD := hPD.2
  exact x_copyFromL_t218 l  hx hb hr hml hown hg hlocks hK hA f_13 a_16 G _ _ _ ((show f_13 32 = F 32 from by rw [← ef_13]; rfl).trans z0) ((show f_13 38 = F 38 from by rw [← ef_13]; rfl).trans z1) ((show f_13 44 = F 44 from by rw [← ef_13]; rfl).trans z2) ((show a_16 11 0 = a_15 11 0 from by rw [← ea_16]; rfl).trans ((show a_15 11 0 = a_14 11 0 from by rw [← ea_15]; rfl).trans ((show a_14 11 0 = a_12 11 0 from by rw [← ea_14]; rfl).trans ((show a_12 11 0 = B 11 0 from by rw [← ea_12]; rfl).trans z3)))) ((show a_16 11 1 = a_15 11 1 from by rw [← ea_16]; rfl).trans ((show a_15 11 1 = a_14 11 1 from by rw [← ea_15]; rfl).trans ((show a_14 11 1 = a_12 11 1 from by rw [← ea_14]; rfl).trans ((show a_12 11 1 = B 11 1 from by rw [← ea_12]; rfl).trans z4)))) ((show a_16 11 2 = a_15 11 2 from by rw [← ea_16]; rfl).trans ((show a_15 11 2 = a_14 11 2 from by rw [← ea_15]; rfl).trans ((show a_14 11 2 = a_12 11 2 from by rw [← ea_14]; rfl).trans ((show a_12 11 2 = B 11 2 from by rw [← ea_12]; rfl).trans z5)))) ((show f_13 1858 = F 1858 from by rw [← ef_13]; rfl).trans z6) ((show f_13 50 = F 50 from by rw [← ef_13]; rfl).trans z7) z8 ((show a_16 84 0 = a_15 84 0 from by rw [← ea_16]; rfl).trans ((show a_15 84 0 = a_14 84 0 from by rw [← ea_15]; rfl).trans ((show a_14 84 0 = a_12 84 0 from by rw [← ea_14]; rfl).trans ((show a_12 84 0 = B 84 0 from by rw [← ea_12]; rfl).trans z9)))) ((show a_16 84 1 = a_15 84 1 from by rw [← ea_16]; rfl).trans ((show a_15 84 1 = a_14 84 1 from by rw [← ea_15]; rfl).trans ((show a_14 84 1 = a_12 84 1 from by rw [← ea_14]; rfl).trans ((show a_12 84 1 = B 84 1 from by rw [← ea_12]; rfl).trans z10)))) ((show a_16 84 2 = a_15 84 2 from by rw [← ea_16]; rfl).trans ((show a_15 84 2 = a_14 84 2 from by rw [← ea_15]; rfl).trans ((show a_14 84 2 = a_12 84 2 from by rw [← ea_14]; rfl).trans ((show a_12 84 2 = B 84 2 from by rw [← ea_12]; rfl).trans z11)))) ((show f_13 1888 = F 1888 from by rw [← ef_13]; rfl).trans z12) ((show f_13 1894 = F 1894 from by rw [← ef_13]; rfl).trans z13) ((show a_16 69 0 = a_15 69 0 from by rw [← ea_16]; rfl).trans ((show a_15 69 0 = a_14 69 0 from by rw [← ea_15]; rfl).trans ((show a_14 69 0 = a_12 69 0 from by rw [← ea_14]; rfl).trans ((show a_12 69 0 = B 11 0 from by rw [← ea_12]; exact pk_cpy_in (f := B 11) (g := B 69) (sp := 0) (dp := 0) (n := 4) (j := 0) (by decide) (by decide)).trans z3)))) ((show a_16 69 1 = a_15 69 1 from by rw [← ea_16]; rfl).trans ((show a_15 69 1 = a_14 69 1 from by rw [← ea_15]; rfl).trans ((show a_14 69 1 = a_12 69 1 from by rw [← ea_14]; rfl).trans ((show a_12 69 1 = B 11 1 from by rw [← ea_12]; exact pk_cpy_in (f := B 11) (g := B 69) (sp := 0) (dp := 0) (n := 4) (j := 1) (by decide) (by decide)).trans z4)))) ((show a_16 69 2 = a_15 69 2 from by rw [← ea_16]; rfl).trans ((show a_15 69 2 = a_14 69 2 from by rw [← ea_15]; rfl).trans ((show a_14 69 2 = a_12 69 2 from by rw [← ea_14]; rfl).trans ((show a_12 69 2 = B 11 2 from by rw [← ea_12]; exact pk_cpy_in (f := B 11) (g := B 69) (sp := 0) (dp := 0) (n := 4) (j := 2) (by decide) (by decide)).trans z5)))) hP hD hS hl
set_option maxHeartbeats 4000000 in
set_option maxRecDepth 100000 in
theorem x_copyFromL_t83 (l : Launch) {D : va_G} {K : Nat → ClassId} {r : Nat → Nat}  {p : Program} {e : Env} {s : State} {m : MethodId} {below : List Frame} {meth : Method} {c : Code} {A : Nat → Prop} (hx : p.tables.exec = Jvm.exec) (hb : c.code = cX7_copyFrom) (hr : meth.sig.returnType = none) (hml : c.maxLocals = 3) (hown : s.vm.findClass RX7 = some m.cls) (hg : ∀ w ∈ kG, w.before ([.ref (r 59), .ref (r 1)] : List Value).toArray s = true) (hlocks : meth.locks = false) (hK : va_K D vwCl (tysK K) s) (hA : ∀ q, s.heap.size ≤ q → A q) (F : Nat → Int32) (B : Nat → Nat → Int32) (G : xG) (H : Heap) (locs : List Loc) (ls : Array Slot) (z0 : F 32 = 0) (z1 : F 38 = 0) (z2 : F 44 = 0) (z3 : B 11 0 = 0) (z4 : B 11 1 = 30) (z5 : B 11 2 = 2) (z6 : F 1858 = (-1)) (z7 : F 50 = (-1)) (z8 : (∀ i, G.2 15 i = none)) (z9 : B 84 0 = (-1)) (z10 : B 84 1 = (-1)) (z11 : B 84 2 = (-1)) (z12 : F 1888 = 0) (hP : va_P D vwCl (xW K r F B G) H) (hD : va_D A (xW K r F B G)) (hS : va_S A s.heap H locs) (hl : lv_has ls 3 [(0, .ref (r 59)), (1, .ref (r 1))]) : W p l e (rmD 2 0 0) s m ([.ref (r 59), .ref (r 1)] : List Value).toArray below meth c H locs 0 0 (kQv D (tysK K) (fun (u : xS) => u.1 32 = 0 ∧ u.1 38 = 0 ∧ u.1 44 = 0 ∧ u.2.1 11 0 = 0 ∧ u.2.1 11 1 = 30 ∧ u.2.1 11 2 = 2 ∧ u.1 1858 = (-1) ∧ u.1 50 = (-1) ∧ (∀ i, u.2.2.2 15 i = none) ∧ u.2.1 84 0 = (-1) ∧ u.2.1 84 1 = (-1) ∧ u.2.1 84 2 = (-1) ∧ u.1 1888 = 0 ∧ u.1 1894 = 0 ∧ u.2.1 69 0 = 0 ∧ u.2.1 69 1 = 30 ∧ u.2.1 69 2 = 2 ∧ u.1 1906 = (-1)) (fun u => xW K r u.1 u.2.1 u.2.2) A below ([.ref (r 59), .ref (r 1)] : List Value).toArray s 0 0) (F0 m 83 ls []) := by
  refine lv_aload_n hx hb dX7_copyFrom_83 rfl (lv_at hl 0 rfl) ?_
  refine lv_aload_n hx hb dX7_copyFrom_84 rfl (lv_at hl 1 rfl) ?_
  refine va_get (D := D) (ci := 7) (v := .int (F 38)) (C := RX7) (T := TX7) (N := 20) hx hb hg inC7 hown hK hP 1 rfl rfl 6 (by decide) (hg _ wt1_104) (fun _ h9 => h9) rfl dX7_copyFrom_85 ?_
  refine k_top (z := 0) z1 ?_
  refine va_put (D := D) (ci := 7) (v := .int 0) (ty := .int) (C := RX7) (T := TX7) (N := 20) hx hb hg inC7 tyX7 tyX7_ok nmX7 hown hK hP hD hS 59 rfl rfl 6 (by decide) (hg _ wt1_104) (fun _ h9 => h9) rfl (by decide +kernel) rfl rfl (Nat.le_of_ble_eq_true rfl) dX7_copyFrom_88 (fun H locs hP hD hS => ?_)
  have hP : va_P D vwCl (xW K r (upd F 1894 0) B G) H := hP
  have hD : va_D A (xW K r (upd F 1894 0) B G) := hD
  refine k_gen (P := fun z => va_P D vwCl (xW K r z B G) H ∧ va_D A (xW K r z B G)) (upd F 1894 0) ⟨hP, hD⟩ (fun f_7 ef_7 hPD => ?_)
  have hP := hPD.1
  have hD := hPD.2
  refine lv_aload_n hx hb dX7_copyFrom_91 rfl (lv_at hl 1 rfl) ?_
  refine va_get (D := D) (ci := 7) (v := .ref (r 7)) (C := RX7) (T := TX7) (N := 20) hx hb hg inC7 hown hK hP 1 rfl rfl 7 (by decide) (hg _ wt1_110) (fun _ h9 => h9) rfl dX7_copyFrom_92 ?_
  refine lv_iconst (v := 0) hx hb dX7_copyFrom_95 (by decide) ?_
  refine lv_aload_n hx hb dX7_copyFrom_96 rfl (lv_at hl 0 rfl) ?_
  refine va_get (D := D) (ci := 7) (v := .ref (r 65)) (C := RX7) (T := TX7) (N := 20) hx hb hg inC7 hown hK hP 59 rfl rfl 7 (by decide) (hg _ wt1_110) (fun _ h9 => h9) rfl dX7_copyFrom_97 ?_
  refine lv_iconst (v := 0) hx hb dX7_copyFrom_100 (by decide) ?_
  refine lv_bipush (v := 6) hx hb dX7_copyFrom_101 (by decide) ?_
  refine va_copyi (ty := .int) hx hb (hml.trans hl.1.symm) hown (hg _ wt4_83) (hg _ wt4_70) (hg _ wt4_69) (hg _ wt1_20) hK hP hD hS 7 65 0 0 rfl rfl rfl rfl rfl (by decide) (by decide) (by decide) (by decide +kernel) (by decide +kernel) (fun i _ => rfl) (by decide) (Nat.le_of_ble_eq_true rfl) dX7_copyFrom_103 (fun H locs hP hD hS => ?_)
  rw [cl_0] at hP hD
  rw [cl_6] at hP hD
  have hP : va_P D vwCl (xW K r f_7 (va_up B 65 (va_cpy (B 7) (B 65) 0 0 6)) G) H := hP
  have hD : va_D A (xW K r f_7 (va_up B 65 (va_cpy (B 7) (B 65) 0 0 6)) G) := hD
  refine k_gen (P := fun z => va_P D vwCl (xW K r f_7 z G) H ∧ va_D A (xW K r f_7 z G)) (va_up B 65 (va_cpy (B 7) (B 65) 0 0 6)) ⟨hP, hD⟩ (fun a_8 ea_8 hPD => ?_)
  have hP := hPD.1
  have hD := hPD.2
  refine lv_aload_n hx hb dX7_copyFrom_106 rfl (lv_at hl 1 rfl) ?_
  refine va_get (D := D) (ci := 7) (v := .ref (r 8)) (C := RX7) (T := TX7) (N := 20) hx hb hg inC7 hown hK hP 1 rfl rfl 8 (by decide) (hg _ wt1_114) (fun _ h9 => h9) rfl dX7_copyFrom_107 ?_
  refine lv_iconst (v := 0) hx hb dX7_copyFrom_110 (by decide) ?_
  refine lv_aload_n hx hb dX7_copyFrom_111 rfl (lv_at hl 0 rfl) ?_
  refine va_get (D := D) (ci := 7) (v := .ref (r 66)) (C := RX7) (T := TX7) (N := 20) hx hb hg inC7 hown hK hP 59 rfl rfl 8 (by decide) (hg _ wt1_114) (fun _ h9 => h9) rfl dX7_copyFrom_112 ?_
  refine lv_iconst (v := 0) hx hb dX7_copyFrom_115 (by decide) ?_
  refine lv_bipush (v := 6) hx hb dX7_copyFrom_116 (by decide) ?_
  refine va_copyi (ty := .int) hx hb (hml.trans hl.1.symm) hown (hg _ wt4_83) (hg _ wt4_70) (hg _ wt4_69) (hg _ wt1_20) hK hP hD hS 8 66 0 0 rfl rfl rfl rfl rfl (by decide) (by decide) (by decide) (by decide +kernel) (by decide +kernel) (fun i _ => rfl) (by decide) (Nat.le_of_ble_eq_true rfl) dX7_copyFrom_118 (fun H locs hP hD hS => ?_)
  rw [cl_0] at hP hD
  rw [cl_6] at hP hD
  have hP : va_P D vwCl (xW K r f_7 (va_up a_8 66 (va_cpy (a_8 8) (a_8 66) 0 0 6)) G) H := hP
  have hD : va_D A (xW K r f_7 (va_up a_8 66 (va_cpy (a_8 8) (a_8 66) 0 0 6)) G) := hD
  refine k_gen (P := fun z => va_P D vwCl (xW K r f_7 z G) H ∧ va_D A (xW K r f_7 z G)) (va_up a_8 66 (va_cpy (a_8 8) (a_8 66) 0 0 6)) ⟨hP, hD⟩ (fun a_9 ea_9 hPD => ?_)
  have hP := hPD.1
  have hD := hPD.2
  refine lv_aload_n hx hb dX7_copyFrom_121 rfl (lv_at hl 1 rfl) ?_
  refine va_get (D := D) (ci := 7) (v := .ref (r 9)) (C := RX7) (T := TX7) (N := 20) hx hb hg inC7 hown hK hP 1 rfl rfl 9 (by decide) (hg _ wt1_116) (fun _ h9 => h9) rfl dX7_copyFrom_122 ?_
  refine lv_iconst (v := 0) hx hb dX7_copyFrom_125 (by decide) ?_
  refine lv_aload_n hx hb dX7_copyFrom_126 rfl (lv_at hl 0 rfl) ?_
  refine va_get (D := D) (ci := 7) (v := .ref (r 67)) (C := RX7) (T := TX7) (N := 20) hx hb hg inC7 hown hK hP 59 rfl rfl 9 (by decide) (hg _ wt1_116) (fun _ h9 => h9) rfl dX7_copyFrom_127 ?_
  refine lv_iconst (v := 0) hx hb dX7_copyFrom_130 (by decide) ?_
  refine lv_bipush (v := 6) hx hb dX7_copyFrom_131 (by decide) ?_
  refine va_copyi (ty := .int) hx hb (hml.trans hl.1.symm) hown (hg _ wt4_83) (hg _ wt4_70) (hg _ wt4_69) (hg _ wt1_20) hK hP hD hS 9 67 0 0 rfl rfl rfl rfl rfl (by decide) (by decide) (by decide) (by decide +kernel) (by decide +kernel) (fun i _ => rfl) (by decide) (Nat.le_of_ble_eq_true rfl) dX7_copyFrom_133 (fun H locs hP hD hS => ?_)
  rw [cl_0] at hP hD
  rw [cl_6] at hP hD
  have hP : va_P D vwCl (xW K r f_7 (va_up a_9 67 (va_cpy (a_9 9) (a_9 67) 0 0 6)) G) H := hP
  have hD : va_D A (xW K r f_7 (va_up a_9 67 (va_cpy (a_9 9) (a_9 67) 0 0 6)) G) := hD
  refine k_gen (P := fun z => va_P D vwCl (xW K r f_7 z G) H ∧ va_D A (xW K r f_7 z G)) (va_up a_9 67 (va_cpy (a_9 9) (a_9 67) 0 0 6)) ⟨hP, hD⟩ (fun a_10 ea_10 hPD => ?_)
  have hP := hPD.1
  have hD := hPD.2
  refine lv_aload_n hx hb dX7_copyFrom_136 rfl (lv_at hl 1 rfl) ?_
  refine va_get (D := D) (ci := 7) (v := .ref (r 10)) (C := RX7) (T := TX7) (N := 20) hx hb hg inC7 hown hK hP 1 rfl rfl 10 (by decide) (hg _ wt1_121) (fun _ h9 => h9) rfl dX7_copyFrom_137 ?_
  refine lv_iconst (v := 0) hx hb dX7_copyFrom_140 (by decide) ?_
  refine lv_aload_n hx hb dX7_copyFrom_141 rfl (lv_at hl 0 rfl) ?_
  refine va_get (D := D) (ci := 7) (v := .ref (r 68)) (C := RX7) (T := TX7) (N := 20) hx hb hg inC7 hown hK hP 59 rfl rfl 10 (by decide) (hg _ wt1_121) (fun _ h9 => h9) rfl dX7_copyFrom_142 ?_
  refine lv_iconst (v := 0) hx hb dX7_copyFrom_145 (by decide) ?_
  refine lv_bipush (v := 6) hx hb dX7_copyFrom_146 (by decide) ?_
  refine va_copyi (ty := .int) hx hb (hml.trans hl.1.symm) hown (hg _ wt4_83) (hg _ wt4_70) (hg _ wt4_69) (hg _ wt1_20) hK hP hD hS 10 68 0 0 rfl rfl rfl rfl rfl (by decide) (by decide) (by decide) (by decide +kernel) (by decide +kernel) (fun i _ => rfl) (by decide) (Nat.le_of_ble_eq_true rfl) dX7_copyFrom_148 (fun H locs hP hD hS => ?_)
  rw [cl_0] at hP hD
  rw [cl_6] at hP hD
  have hP : va_P D vwCl (xW K r f_7 (va_up a_10 68 (va_cpy (a_10 10) (a_10 68) 0 0 6)) G) H := hP
  have hD : va_D A (xW K r f_7 (va_up a_10 68 (va_cpy (a_10 10) (a_10 68) 0 0 6)) G) := hD
  refine k_gen (P := fun z => va_P D vwCl (xW K r f_7 z G) H ∧ va_D A (xW K r f_7 z G)) (va_up a_10 68 (va_cpy (a_10 10) (a_10 68) 0 0 6)) ⟨hP, hD⟩ (fun a_11 ea_11 hPD => ?_)
  have hP := hPD.1
  have hD := hPD.2
  exact x_copyFromL_t151 l  hx hb hr hml hown hg hlocks hK hA f_7 a_11 G _ _ _ ((show f_7 32 = F 32 from by rw [← ef_7]; rfl).trans z0) ((show f_7 38 = F 38 from by rw [← ef_7]; rfl).trans z1) ((show f_7 44 = F 44 from by rw [← ef_7]; rfl).trans z2) ((show a_11 11 0 = a_10 11 0 from by rw [← ea_11]; rfl).trans ((show a_10 11 0 = a_9 11 0 from by rw [← ea_10]; rfl).trans ((show a_9 11 0 = a_8 11 0 from by rw [← ea_9]; rfl).trans ((show a_8 11 0 = B 11 0 from by rw [← ea_8]; rfl).trans z3)))) ((show a_11 11 1 = a_10 11 1 from by rw [← ea_11]; rfl).trans ((show a_10 11 1 = a_9 11 1 from by rw [← ea_10]; rfl).trans ((show a_9 11 1 = a_8 11 1 from by rw [← ea_9]; rfl).trans ((show a_8 11 1 = B 11 1 from by rw [← ea_8]; rfl).trans z4)))) ((show a_11 11 2 = a_10 11 2 from by rw [← ea_11]; rfl).trans ((show a_10 11 2 = a_9 11 2 from by rw [← ea_10]; rfl).trans ((show a_9 11 2 = a_8 11 2 from by rw [← ea_9]; rfl).trans ((show a_8 11 2 = B 11 2 from by rw [← ea_8]; rfl).trans z5)))) ((show f_7 1858 = F 1858 from by rw [← ef_7]; rfl).trans z6) ((show f_7 50 = F 50 from by rw [← ef_7]; rfl).trans z7) z8 ((show a_11 84 0 = a_10 84 0 from by rw [← ea_11]; rfl).trans ((show a_10 84 0 = a_9 84 0 from by rw [← ea_10]; rfl).trans ((show a_9 84 0 = a_8 84 0 from by rw [← ea_9]; rfl).trans ((show a_8 84 0 = B 84 0 from by rw [← ea_8]; rfl).trans z9)))) ((show a_11 84 1 = a_10 84 1 from by rw [← ea_11]; rfl).trans ((show a_10 84 1 = a_9 84 1 from by rw [← ea_10]; rfl).trans ((show a_9 84 1 = a_8 84 1 from by rw [← ea_9]; rfl).trans ((show a_8 84 1 = B 84 1 from by rw [← ea_8]; rfl).trans z10)))) ((show a_11 84 2 = a_10 84 2 from by rw [← ea_11]; rfl).trans ((show a_10 84 2 = a_9 84 2 from by rw [← ea_10]; rfl).trans ((show a_9 84 2 = a_8 84 2 from by rw [← ea_9]; rfl).trans ((show a_8 84 2 = B 84 2 from by rw [← ea_8]; rfl).trans z11)))) ((show f_7 1888 = F 1888 from by rw [← ef_7]; rfl).trans z12) (show f_7 1894 = 0 from by rw [← ef_7]; rfl) hP hD hS hl
set_option maxHeartbeats 4000000 in
set_option maxRecDepth 100000 in
theorem x_copyFromL (l : Launch) {D : va_G} {K : Nat → ClassId} (r : Nat → Nat) (f : Nat → Int32) (a : Nat → Nat → Int32) (g : xG) (h0 : f 32 = 0) (h1 : f 38 = 0) (h2 : f 44 = 0) (h3 : a 11 0 = 0) (h4 : a 11 1 = 30) (h5 : a 11 2 = 2) (h6 : f 1858 = (-1)) (h7 : f 50 = (-1)) (h8 : (∀ i, g.2 15 i = none)) (h9 : a 84 0 = (-1)) (h10 : a 84 1 = (-1)) (h11 : a 84 2 = (-1))   : kV l yX7_copyFrom (Cond.code yX7_copyFrom cX7_copyFrom 3 none :: kG) (rmD 2 0 0) D (tysK K) [.ref (r 59), .ref (r 1)] (xW K r f a g) (fun (u : xS) => u.1 32 = 0 ∧ u.1 38 = 0 ∧ u.1 44 = 0 ∧ u.2.1 11 0 = 0 ∧ u.2.1 11 1 = 30 ∧ u.2.1 11 2 = 2 ∧ u.1 1858 = (-1) ∧ u.1 50 = (-1) ∧ (∀ i, u.2.2.2 15 i = none) ∧ u.2.1 84 0 = (-1) ∧ u.2.1 84 1 = (-1) ∧ u.2.1 84 2 = (-1) ∧ u.1 1888 = 0 ∧ u.1 1894 = 0 ∧ u.2.1 69 0 = 0 ∧ u.2.1 69 1 = 30 ∧ u.2.1 69 2 = 2 ∧ u.1 1906 = (-1)) (fun u => xW K r u.1 u.2.1 u.2.2) 0 0 := by
  refine kV.of (cc := cX7_copyFrom) (maxL := 3) (ret := none) (by decide) rfl (Nat.le_of_ble_eq_true rfl) ?_
  intro p e s m below meth c A hx hb hr hml hown hts hlocks hnm hK hP hD hS hA ls hl
  have hg : ∀ w ∈ kG, w.before _ s = true := fun w h => hts w (List.mem_cons_of_mem _ h)
  have hown : s.vm.findClass RX7 = some m.cls := hown
  have hl : lv_has ls 3 [(0, .ref (r 59)), (1, .ref (r 1))] := hl
  refine lv_aload_n hx hb dX7_copyFrom_0 rfl (lv_at hl 0 rfl) ?_
  refine lv_aload_n hx hb dX7_copyFrom_1 rfl (lv_at hl 1 rfl) ?_
  refine va_get (D := D) (ci := 7) (v := .int (f 32)) (C := RX7) (T := TX7) (N := 20) hx hb hg inC7 hown hK hP 1 rfl rfl 0 (by decide) (hg _ wt1_79) (fun _ h9 => h9) rfl dX7_copyFrom_2 ?_
  refine k_top (z := 0) h0 ?_
  refine va_put (D := D) (ci := 7) (v := .int 0) (ty := .int) (C := RX7) (T := TX7) (N := 20) hx hb hg inC7 tyX7 tyX7_ok nmX7 hown hK hP hD hS 59 rfl rfl 0 (by decide) (hg _ wt1_79) (fun _ h9 => h9) rfl (by decide +kernel) rfl rfl (Nat.le_of_ble_eq_true rfl) dX7_copyFrom_5 (fun H locs hP hD hS => ?_)
  have hP : va_P D vwCl (xW K r (upd f 1888 0) a g) H := hP
  have hD : va_D A (xW K r (upd f 1888 0) a g) := hD
  refine k_gen (P := fun z => va_P D vwCl (xW K r z a g) H ∧ va_D A (xW K r z a g)) (upd f 1888 0) ⟨hP, hD⟩ (fun f_1 ef_1 hPD => ?_)
  have hP := hPD.1
  have hD := hPD.2
  refine lv_aload_n hx hb dX7_copyFrom_8 rfl (lv_at hl 1 rfl) ?_
  refine va_get (D := D) (ci := 7) (v := .ref (r 2)) (C := RX7) (T := TX7) (N := 20) hx hb hg inC7 hown hK hP 1 rfl rfl 1 (by decide) (hg _ wt1_86) (fun _ h9 => h9) rfl dX7_copyFrom_9 ?_
  refine lv_iconst (v := 0) hx hb dX7_copyFrom_12 (by decide) ?_
  refine lv_aload_n hx hb dX7_copyFrom_13 rfl (lv_at hl 0 rfl) ?_
  refine va_get (D := D) (ci := 7) (v := .ref (r 60)) (C := RX7) (T := TX7) (N := 20) hx hb hg inC7 hown hK hP 59 rfl rfl 1 (by decide) (hg _ wt1_86) (fun _ h9 => h9) rfl dX7_copyFrom_14 ?_
  refine lv_iconst (v := 0) hx hb dX7_copyFrom_17 (by decide) ?_
  refine lv_bipush (v := 10) hx hb dX7_copyFrom_18 (by decide) ?_
  refine va_copyi (ty := .int) hx hb (hml.trans hl.1.symm) hown (hg _ wt4_83) (hg _ wt4_70) (hg _ wt4_69) (hg _ wt1_20) hK hP hD hS 2 60 0 0 rfl rfl rfl rfl rfl (by decide) (by decide) (by decide) (by decide +kernel) (by decide +kernel) (fun i _ => rfl) (by decide) (Nat.le_of_ble_eq_true rfl) dX7_copyFrom_20 (fun H locs hP hD hS => ?_)
  rw [cl_0] at hP hD
  rw [cl_10] at hP hD
  have hP : va_P D vwCl (xW K r f_1 (va_up a 60 (va_cpy (a 2) (a 60) 0 0 10)) g) H := hP
  have hD : va_D A (xW K r f_1 (va_up a 60 (va_cpy (a 2) (a 60) 0 0 10)) g) := hD
  refine k_gen (P := fun z => va_P D vwCl (xW K r f_1 z g) H ∧ va_D A (xW K r f_1 z g)) (va_up a 60 (va_cpy (a 2) (a 60) 0 0 10)) ⟨hP, hD⟩ (fun a_2 ea_2 hPD => ?_)
  have hP := hPD.1
  have hD := hPD.2
  refine lv_aload_n hx hb dX7_copyFrom_23 rfl (lv_at hl 1 rfl) ?_
  refine va_get (D := D) (ci := 7) (v := .ref (r 3)) (C := RX7) (T := TX7) (N := 20) hx hb hg inC7 hown hK hP 1 rfl rfl 2 (by decide) (hg _ wt1_89) (fun _ h9 => h9) rfl dX7_copyFrom_24 ?_
  refine lv_iconst (v := 0) hx hb dX7_copyFrom_27 (by decide) ?_
  refine lv_aload_n hx hb dX7_copyFrom_28 rfl (lv_at hl 0 rfl) ?_
  refine va_get (D := D) (ci := 7) (v := .ref (r 61)) (C := RX7) (T := TX7) (N := 20) hx hb hg inC7 hown hK hP 59 rfl rfl 2 (by decide) (hg _ wt1_89) (fun _ h9 => h9) rfl dX7_copyFrom_29 ?_
  refine lv_iconst (v := 0) hx hb dX7_copyFrom_32 (by decide) ?_
  refine lv_bipush (v := 10) hx hb dX7_copyFrom_33 (by decide) ?_
  refine va_copyi (ty := .int) hx hb (hml.trans hl.1.symm) hown (hg _ wt4_83) (hg _ wt4_70) (hg _ wt4_69) (hg _ wt1_20) hK hP hD hS 3 61 0 0 rfl rfl rfl rfl rfl (by decide) (by decide) (by decide) (by decide +kernel) (by decide +kernel) (fun i _ => rfl) (by decide) (Nat.le_of_ble_eq_true rfl) dX7_copyFrom_35 (fun H locs hP hD hS => ?_)
  rw [cl_0] at hP hD
  rw [cl_10] at hP hD
  have hP : va_P D vwCl (xW K r f_1 (va_up a_2 61 (va_cpy (a_2 3) (a_2 61) 0 0 10)) g) H := hP
  have hD : va_D A (xW K r f_1 (va_up a_2 61 (va_cpy (a_2 3) (a_2 61) 0 0 10)) g) := hD
  refine k_gen (P := fun z => va_P D vwCl (xW K r f_1 z g) H ∧ va_D A (xW K r f_1 z g)) (va_up a_2 61 (va_cpy (a_2 3) (a_2 61) 0 0 10)) ⟨hP, hD⟩ (fun a_3 ea_3 hPD => ?_)
  have hP := hPD.1
  have hD := hPD.2
  refine lv_aload_n hx hb dX7_copyFrom_38 rfl (lv_at hl 1 rfl) ?_
  refine va_get (D := D) (ci := 7) (v := .ref (r 4)) (C := RX7) (T := TX7) (N := 20) hx hb hg inC7 hown hK hP 1 rfl rfl 3 (by decide) (hg _ wt1_93) (fun _ h9 => h9) rfl dX7_copyFrom_39 ?_
  refine lv_iconst (v := 0) hx hb dX7_copyFrom_42 (by decide) ?_
  refine lv_aload_n hx hb dX7_copyFrom_43 rfl (lv_at hl 0 rfl) ?_
  refine va_get (D := D) (ci := 7) (v := .ref (r 62)) (C := RX7) (T := TX7) (N := 20) hx hb hg inC7 hown hK hP 59 rfl rfl 3 (by decide) (hg _ wt1_93) (fun _ h9 => h9) rfl dX7_copyFrom_44 ?_
  refine lv_iconst (v := 0) hx hb dX7_copyFrom_47 (by decide) ?_
  refine lv_bipush (v := 10) hx hb dX7_copyFrom_48 (by decide) ?_
  refine va_copyi (ty := .int) hx hb (hml.trans hl.1.symm) hown (hg _ wt4_83) (hg _ wt4_70) (hg _ wt4_69) (hg _ wt1_20) hK hP hD hS 4 62 0 0 rfl rfl rfl rfl rfl (by decide) (by decide) (by decide) (by decide +kernel) (by decide +kernel) (fun i _ => rfl) (by decide) (Nat.le_of_ble_eq_true rfl) dX7_copyFrom_50 (fun H locs hP hD hS => ?_)
  rw [cl_0] at hP hD
  rw [cl_10] at hP hD
  have hP : va_P D vwCl (xW K r f_1 (va_up a_3 62 (va_cpy (a_3 4) (a_3 62) 0 0 10)) g) H := hP
  have hD : va_D A (xW K r f_1 (va_up a_3 62 (va_cpy (a_3 4) (a_3 62) 0 0 10)) g) := hD
  refine k_gen (P := fun z => va_P D vwCl (xW K r f_1 z g) H ∧ va_D A (xW K r f_1 z g)) (va_up a_3 62 (va_cpy (a_3 4) (a_3 62) 0 0 10)) ⟨hP, hD⟩ (fun a_4 ea_4 hPD => ?_)
  have hP := hPD.1
  have hD := hPD.2
  refine lv_aload_n hx hb dX7_copyFrom_53 rfl (lv_at hl 1 rfl) ?_
  refine va_get (D := D) (ci := 7) (v := .ref (r 5)) (C := RX7) (T := TX7) (N := 20) hx hb hg inC7 hown hK hP 1 rfl rfl 4 (by decide) (hg _ wt1_95) (fun _ h9 => h9) rfl dX7_copyFrom_54 ?_
  refine lv_iconst (v := 0) hx hb dX7_copyFrom_57 (by decide) ?_
  refine lv_aload_n hx hb dX7_copyFrom_58 rfl (lv_at hl 0 rfl) ?_
  refine va_get (D := D) (ci := 7) (v := .ref (r 63)) (C := RX7) (T := TX7) (N := 20) hx hb hg inC7 hown hK hP 59 rfl rfl 4 (by decide) (hg _ wt1_95) (fun _ h9 => h9) rfl dX7_copyFrom_59 ?_
  refine lv_iconst (v := 0) hx hb dX7_copyFrom_62 (by decide) ?_
  refine lv_bipush (v := 10) hx hb dX7_copyFrom_63 (by decide) ?_
  refine va_copyi (ty := .int) hx hb (hml.trans hl.1.symm) hown (hg _ wt4_83) (hg _ wt4_70) (hg _ wt4_69) (hg _ wt1_20) hK hP hD hS 5 63 0 0 rfl rfl rfl rfl rfl (by decide) (by decide) (by decide) (by decide +kernel) (by decide +kernel) (fun i _ => rfl) (by decide) (Nat.le_of_ble_eq_true rfl) dX7_copyFrom_65 (fun H locs hP hD hS => ?_)
  rw [cl_0] at hP hD
  rw [cl_10] at hP hD
  have hP : va_P D vwCl (xW K r f_1 (va_up a_4 63 (va_cpy (a_4 5) (a_4 63) 0 0 10)) g) H := hP
  have hD : va_D A (xW K r f_1 (va_up a_4 63 (va_cpy (a_4 5) (a_4 63) 0 0 10)) g) := hD
  refine k_gen (P := fun z => va_P D vwCl (xW K r f_1 z g) H ∧ va_D A (xW K r f_1 z g)) (va_up a_4 63 (va_cpy (a_4 5) (a_4 63) 0 0 10)) ⟨hP, hD⟩ (fun a_5 ea_5 hPD => ?_)
  have hP := hPD.1
  have hD := hPD.2
  refine lv_aload_n hx hb dX7_copyFrom_68 rfl (lv_at hl 1 rfl) ?_
  refine va_get (D := D) (ci := 7) (v := .ref (r 6)) (C := RX7) (T := TX7) (N := 20) hx hb hg inC7 hown hK hP 1 rfl rfl 5 (by decide) (hg _ wt1_97) (fun _ h9 => h9) rfl dX7_copyFrom_69 ?_
  refine lv_iconst (v := 0) hx hb dX7_copyFrom_72 (by decide) ?_
  refine lv_aload_n hx hb dX7_copyFrom_73 rfl (lv_at hl 0 rfl) ?_
  refine va_get (D := D) (ci := 7) (v := .ref (r 64)) (C := RX7) (T := TX7) (N := 20) hx hb hg inC7 hown hK hP 59 rfl rfl 5 (by decide) (hg _ wt1_97) (fun _ h9 => h9) rfl dX7_copyFrom_74 ?_
  refine lv_iconst (v := 0) hx hb dX7_copyFrom_77 (by decide) ?_
  refine lv_bipush (v := 10) hx hb dX7_copyFrom_78 (by decide) ?_
  refine va_copyi (ty := .int) hx hb (hml.trans hl.1.symm) hown (hg _ wt4_83) (hg _ wt4_70) (hg _ wt4_69) (hg _ wt1_20) hK hP hD hS 6 64 0 0 rfl rfl rfl rfl rfl (by decide) (by decide) (by decide) (by decide +kernel) (by decide +kernel) (fun i _ => rfl) (by decide) (Nat.le_of_ble_eq_true rfl) dX7_copyFrom_80 (fun H locs hP hD hS => ?_)
  rw [cl_0] at hP hD
  rw [cl_10] at hP hD
  have hP : va_P D vwCl (xW K r f_1 (va_up a_5 64 (va_cpy (a_5 6) (a_5 64) 0 0 10)) g) H := hP
  have hD : va_D A (xW K r f_1 (va_up a_5 64 (va_cpy (a_5 6) (a_5 64) 0 0 10)) g) := hD
  refine k_gen (P := fun z => va_P D vwCl (xW K r f_1 z g) H ∧ va_D A (xW K r f_1 z g)) (va_up a_5 64 (va_cpy (a_5 6) (a_5 64) 0 0 10)) ⟨hP, hD⟩ (fun a_6 ea_6 hPD => ?_)
  have hP := hPD.1
  have hD := hPD.2
  exact x_copyFromL_t83 l  hx hb hr hml hown hg hlocks hK hA f_1 a_6 g _ _ _ ((show f_1 32 = f 32 from by rw [← ef_1]; rfl).trans h0) ((show f_1 38 = f 38 from by rw [← ef_1]; rfl).trans h1) ((show f_1 44 = f 44 from by rw [← ef_1]; rfl).trans h2) ((show a_6 11 0 = a_5 11 0 from by rw [← ea_6]; rfl).trans ((show a_5 11 0 = a_4 11 0 from by rw [← ea_5]; rfl).trans ((show a_4 11 0 = a_3 11 0 from by rw [← ea_4]; rfl).trans ((show a_3 11 0 = a_2 11 0 from by rw [← ea_3]; rfl).trans ((show a_2 11 0 = a 11 0 from by rw [← ea_2]; rfl).trans h3))))) ((show a_6 11 1 = a_5 11 1 from by rw [← ea_6]; rfl).trans ((show a_5 11 1 = a_4 11 1 from by rw [← ea_5]; rfl).trans ((show a_4 11 1 = a_3 11 1 from by rw [← ea_4]; rfl).trans ((show a_3 11 1 = a_2 11 1 from by rw [← ea_3]; rfl).trans ((show a_2 11 1 = a 11 1 from by rw [← ea_2]; rfl).trans h4))))) ((show a_6 11 2 = a_5 11 2 from by rw [← ea_6]; rfl).trans ((show a_5 11 2 = a_4 11 2 from by rw [← ea_5]; rfl).trans ((show a_4 11 2 = a_3 11 2 from by rw [← ea_4]; rfl).trans ((show a_3 11 2 = a_2 11 2 from by rw [← ea_3]; rfl).trans ((show a_2 11 2 = a 11 2 from by rw [← ea_2]; rfl).trans h5))))) ((show f_1 1858 = f 1858 from by rw [← ef_1]; rfl).trans h6) ((show f_1 50 = f 50 from by rw [← ef_1]; rfl).trans h7) h8 ((show a_6 84 0 = a_5 84 0 from by rw [← ea_6]; rfl).trans ((show a_5 84 0 = a_4 84 0 from by rw [← ea_5]; rfl).trans ((show a_4 84 0 = a_3 84 0 from by rw [← ea_4]; rfl).trans ((show a_3 84 0 = a_2 84 0 from by rw [← ea_3]; rfl).trans ((show a_2 84 0 = a 84 0 from by rw [← ea_2]; rfl).trans h9))))) ((show a_6 84 1 = a_5 84 1 from by rw [← ea_6]; rfl).trans ((show a_5 84 1 = a_4 84 1 from by rw [← ea_5]; rfl).trans ((show a_4 84 1 = a_3 84 1 from by rw [← ea_4]; rfl).trans ((show a_3 84 1 = a_2 84 1 from by rw [← ea_3]; rfl).trans ((show a_2 84 1 = a 84 1 from by rw [← ea_2]; rfl).trans h10))))) ((show a_6 84 2 = a_5 84 2 from by rw [← ea_6]; rfl).trans ((show a_5 84 2 = a_4 84 2 from by rw [← ea_5]; rfl).trans ((show a_4 84 2 = a_3 84 2 from by rw [← ea_4]; rfl).trans ((show a_3 84 2 = a_2 84 2 from by rw [← ea_3]; rfl).trans ((show a_2 84 2 = a 84 2 from by rw [← ea_2]; rfl).trans h11))))) (show f_1 1888 = 0 from by rw [← ef_1]; rfl) hP hD hS hl
set_option maxHeartbeats 4000000 in
set_option maxRecDepth 100000 in
theorem x_beginL (l : Launch) {D : va_G} {K : Nat → ClassId} (r : Nat → Nat) (f : Nat → Int32) (a : Nat → Nat → Int32) (g : xG) (h0 : f 32 = 0) (h1 : f 38 = 0) (h2 : f 44 = 0) (h3 : a 11 0 = 0) (h4 : a 11 1 = 30) (h5 : a 11 2 = 2) (h6 : f 1858 = (-1)) (h7 : f 50 = (-1)) (h8 : (∀ i, g.2 15 i = none)) (h9 : a 84 0 = (-1)) (h10 : a 84 1 = (-1)) (h11 : a 84 2 = (-1))   : kV l yX3_begin (Cond.code yX3_begin cX3_begin 1 none :: kG) (rmD 3 0 0) D (tysK K) [.ref (r 58)] (xW K r f a g) (fun (u : xS) => u.1 32 = 0 ∧ u.1 38 = 0 ∧ u.1 44 = 0 ∧ u.2.1 11 0 = 0 ∧ u.2.1 11 1 = 30 ∧ u.2.1 11 2 = 2 ∧ u.1 1858 = (-1) ∧ u.1 50 = (-1) ∧ (∀ i, u.2.2.2 15 i = none) ∧ u.2.1 84 0 = (-1) ∧ u.2.1 84 1 = (-1) ∧ u.2.1 84 2 = (-1) ∧ u.1 1888 = 0 ∧ u.1 1894 = 0 ∧ u.2.1 69 0 = 0 ∧ u.2.1 69 1 = 30 ∧ u.2.1 69 2 = 2 ∧ u.1 1906 = (-1)) (fun u => xW K r u.1 u.2.1 u.2.2) 0 0 := by
  refine kV.of (cc := cX3_begin) (maxL := 1) (ret := none) (by decide) rfl (Nat.le_of_ble_eq_true rfl) ?_
  intro p e s m below meth c A hx hb hr hml hown hts hlocks hnm hK hP hD hS hA ls hl
  have hg : ∀ w ∈ kG, w.before _ s = true := fun w h => hts w (List.mem_cons_of_mem _ h)
  have hown : s.vm.findClass RX3 = some m.cls := hown
  have hl : lv_has ls 1 [(0, .ref (r 58))] := hl
  refine lv_aload_n hx hb dX3_begin_0 rfl (lv_at hl 0 rfl) ?_
  refine va_get (D := D) (ci := 3) (v := .ref (r 59)) (C := RX3) (T := TX3) (N := 4) hx hb hg inC3 hown hK hP 58 rfl rfl 0 (by decide) (hg _ wt2_95) (fun _ h9 => h9) rfl dX3_begin_1 ?_
  refine lv_aload_n hx hb dX3_begin_4 rfl (lv_at hl 0 rfl) ?_
  refine va_get (D := D) (ci := 3) (v := .ref (r 1)) (C := RX3) (T := TX3) (N := 4) hx hb hg inC3 hown hK hP 58 rfl rfl 1 (by decide) (hg _ wt2_97) (fun _ h9 => h9) rfl dX3_begin_5 ?_
  refine kV.callW (As := [.ref (r 1)]) (rest := []) ⟨hx, hb, hml, hown, hg⟩ (x_copyFromL l r f a g h0 h1 h2 h3 h4 h5 h6 h7 h8 h9 h10 h11 ) (cwV 1 hg (kgV wt5_0 wt4_80 wt4_81 wt1_2 wt4_82) rfl rfl rfl (by decide +kernel) ⟨by decide, by decide⟩) hK hP hD hS hA 59 7 rfl rfl rfl hl.1 rfl (Nat.le_of_ble_eq_true rfl) dX3_begin_8 ⟨by decide, by decide⟩ (fun u2 H locs hw1 hP hD hS => ?_)
  obtain ⟨f4, a5, g6⟩ := u2
  have hP : va_P D vwCl (xW K r f4 a5 g6) H := hP
  have hD : va_D A (xW K r f4 a5 g6) := hD
  refine lv_aload_n hx hb dX3_begin_11 rfl (lv_at hl 0 rfl) ?_
  refine va_get (D := D) (ci := 3) (v := .ref (r 59)) (C := RX3) (T := TX3) (N := 4) hx hb hg inC3 hown hK hP 58 rfl rfl 0 (by decide) (hg _ wt2_95) (fun _ h9 => h9) rfl dX3_begin_12 ?_
  refine va_get (D := D) (ci := 7) (v := .ref (r 68)) (C := RX7) (T := TX7) (N := 20) hx hb hg inC7 hown hK hP 59 rfl rfl 10 (by decide) (hg _ wt1_123) (fun _ h9 => h9) rfl dX3_begin_15 ?_
  refine lv_iconst (v := (-1)) hx hb dX3_begin_18 (by decide) ?_
  refine kV.callA (q0 := 68) (As := [.ref (r 68), .int (-1)]) (rest := []) ⟨hx, hb, hml, hown, hg⟩ (x_fill l (r 68) 6 (a5 68) (-1) (by decide)) (va_cwS 2 hg (kgS wt5_1 wt3_232 wt1_19 wt3_233) rfl rfl rfl (by decide +kernel) ⟨by decide, by decide⟩) hK hP hD hS hA rfl rfl hl.1 rfl (Nat.le_of_ble_eq_true rfl) dX3_begin_19 ⟨by decide, by decide⟩ (fun u7 H locs hw8 hP hD hS => ?_)
  have hP : va_P D vwCl (xW K r f4 (va_up a5 68 u7) g6) H := hP
  have hD : va_D A (xW K r f4 (va_up a5 68 u7) g6) := hD
  refine k_gen (P := fun z => va_P D vwCl (xW K r f4 z g6) H ∧ va_D A (xW K r f4 z g6)) (va_up a5 68 u7) ⟨hP, hD⟩ (fun a_9 ea_9 hPD => ?_)
  have hP := hPD.1
  have hD := hPD.2
  refine lv_aload_n hx hb dX3_begin_22 rfl (lv_at hl 0 rfl) ?_
  refine va_get (D := D) (ci := 3) (v := .ref (r 59)) (C := RX3) (T := TX3) (N := 4) hx hb hg inC3 hown hK hP 58 rfl rfl 0 (by decide) (hg _ wt2_95) (fun _ h9 => h9) rfl dX3_begin_23 ?_
  refine lv_aload_n hx hb dX3_begin_26 rfl (lv_at hl 0 rfl) ?_
  refine va_get (D := D) (ci := 3) (v := .int (f4 1858)) (C := RX3) (T := TX3) (N := 4) hx hb hg inC3 hown hK hP 58 rfl rfl 2 (by decide) (hg _ wt2_98) (fun _ h9 => h9) rfl dX3_begin_27 ?_
  refine k_top (z := (-1)) hw1.2.2.2.2.2.2.1 ?_
  refine kI.callW (As := [.int (-1)]) (rest := []) ⟨hx, hb, hml, hown, hg⟩ (x_hasBuilder_paper l r f4 a_9 g6 hw1.2.2.2.2.2.2.2.2.2.2.2.2.2.1 (-1)) (cwV 1 hg (kgV wt5_2 wt3_68 wt3_69 wt1_2 wt3_70) rfl rfl rfl (by decide +kernel) ⟨by decide, by decide⟩) hK hP hD hS hA 59 7 rfl rfl rfl hl.1 rfl (Nat.le_of_ble_eq_true rfl) dX3_begin_30 ⟨by decide, by decide⟩ (fun v12 u11 H locs hw10 hP hD hS => ?_)
  have hP : va_P D vwCl (xW K r f4 a_9 g6) H := hP
  have hD : va_D A (xW K r f4 a_9 g6) := hD
  refine k_top (z := 0) (hw10) ?_
  refine lv_if_eq (tgt := 55) hx hb dX3_begin_33 (by decide) (fun c13 => ?_) (fun c13 => absurd (by decide +kernel) c13)
  exact kV_ret hx hb hr hlocks hK hS dX3_begin_55 (f4, a_9, g6) hP hD ⟨hw1.1, hw1.2.1, hw1.2.2.1, ((show a_9 11 0 = a5 11 0 from by rw [← ea_9]; rfl).trans hw1.2.2.2.1), ((show a_9 11 1 = a5 11 1 from by rw [← ea_9]; rfl).trans hw1.2.2.2.2.1), ((show a_9 11 2 = a5 11 2 from by rw [← ea_9]; rfl).trans hw1.2.2.2.2.2.1), hw1.2.2.2.2.2.2.1, hw1.2.2.2.2.2.2.2.1, hw1.2.2.2.2.2.2.2.2.1, ((show a_9 84 0 = a5 84 0 from by rw [← ea_9]; rfl).trans hw1.2.2.2.2.2.2.2.2.2.1), ((show a_9 84 1 = a5 84 1 from by rw [← ea_9]; rfl).trans hw1.2.2.2.2.2.2.2.2.2.2.1), ((show a_9 84 2 = a5 84 2 from by rw [← ea_9]; rfl).trans hw1.2.2.2.2.2.2.2.2.2.2.2.1), hw1.2.2.2.2.2.2.2.2.2.2.2.2.1, hw1.2.2.2.2.2.2.2.2.2.2.2.2.2.1, ((show a_9 69 0 = a5 69 0 from by rw [← ea_9]; rfl).trans hw1.2.2.2.2.2.2.2.2.2.2.2.2.2.2.1), ((show a_9 69 1 = a5 69 1 from by rw [← ea_9]; rfl).trans hw1.2.2.2.2.2.2.2.2.2.2.2.2.2.2.2.1), ((show a_9 69 2 = a5 69 2 from by rw [← ea_9]; rfl).trans hw1.2.2.2.2.2.2.2.2.2.2.2.2.2.2.2.2.1), hw1.2.2.2.2.2.2.2.2.2.2.2.2.2.2.2.2.2⟩
set_option maxHeartbeats 4000000 in
set_option maxRecDepth 100000 in
theorem x_runPlanL (l : Launch) {D : va_G} {K : Nat → ClassId} (r : Nat → Nat) (f : Nat → Int32) (a : Nat → Nat → Int32) (g : xG) (h0 : f 32 = 0) (h1 : f 38 = 0) (h2 : f 44 = 0) (h3 : a 11 0 = 0) (h4 : a 11 1 = 30) (h5 : a 11 2 = 2) (h6 : f 1858 = (-1)) (h7 : f 50 = (-1)) (h8 : (∀ i, g.2 15 i = none)) (h9 : a 84 0 = (-1)) (h10 : a 84 1 = (-1)) (h11 : a 84 2 = (-1)) (h12 : a 81 0 = (-2))   : kI l yX3_run (Cond.code yX3_run cX3_run 6 (some .int) :: kG) (rmD 4 0 0) D (tysK K) [.ref (r 58), .int 63, .int 200, .ref (r 81), .int 0] (xW K r f a g) (fun v (u : xS) => v = 0 ∧ u.1 32 = 0 ∧ u.1 38 = 0 ∧ u.1 44 = 0 ∧ u.2.1 11 0 = 0 ∧ u.2.1 11 1 = 30 ∧ u.2.1 11 2 = 2 ∧ u.1 1858 = (-1) ∧ u.1 50 = (-1) ∧ (∀ i, u.2.2.2 15 i = none) ∧ u.2.1 84 0 = (-1) ∧ u.2.1 84 1 = (-1) ∧ u.2.1 84 2 = (-1)) (fun u => xW K r u.1 u.2.1 u.2.2) 0 0 := by
  refine kI.of (cc := cX3_run) (maxL := 6) (ret := (some .int)) (by decide) rfl (Nat.le_of_ble_eq_true rfl) ?_
  intro p e s m below meth c A hx hb hr hml hown hts hlocks hnm hK hP hD hS hA ls hl
  have hg : ∀ w ∈ kG, w.before _ s = true := fun w h => hts w (List.mem_cons_of_mem _ h)
  have hown : s.vm.findClass RX3 = some m.cls := hown
  have hl : lv_has ls 6 [(0, .ref (r 58)), (1, .int 63), (2, .int 200), (3, .ref (r 81)), (4, .int 0)] := hl
  refine lv_iload hx hb dX3_run_0 (lv_at hl 4 rfl) ?_
  refine lv_if_lt (tgt := 15) hx hb dX3_run_2 (by decide) (fun c1 => absurd c1 (by decide +kernel)) (fun c1 => ?_)
  refine lv_iload hx hb dX3_run_5 (lv_at hl 4 rfl) ?_
  refine lv_bipush (v := 11) hx hb dX3_run_7 (by decide) ?_
  refine lv_iadd hx hb dX3_run_9 ?_
  refine k_top (z := 11) (by decide +kernel) ?_
  refine lv_aload_n hx hb dX3_run_10 rfl (lv_at hl 3 rfl) ?_
  refine va_alen (v := 11) hx hb hK hP 81 0 rfl rfl rfl dX3_run_11 ?_
  refine lv_icmp_le (tgt := 17) hx hb dX3_run_12 (by decide) (fun c2 => ?_) (fun c2 => absurd (by decide +kernel) c2)
  refine lv_aload_n hx hb dX3_run_17 rfl (lv_at hl 3 rfl) ?_
  refine lv_iload hx hb dX3_run_18 (lv_at hl 4 rfl) ?_
  refine va_iald hx hb hK hP 81 0 rfl rfl (k_in (by decide +kernel)) dX3_run_20 ?_
  refine k_top (z := (-2)) (by rw [cl_0]; exact h12) ?_
  refine lv_bipush (v := (-2)) hx hb dX3_run_21 (by decide) ?_
  refine lv_icmp_eq (tgt := 31) hx hb dX3_run_23 (by decide) (fun c3 => ?_) (fun c3 => absurd (by decide +kernel) c3)
  refine lv_iconst (v := 0) hx hb dX3_run_31 (by decide) ?_
  refine lv_istore (lv' := [(5, .int 0), (0, .ref (r 58)), (1, .int 63), (2, .int 200), (3, .ref (r 81)), (4, .int 0)]) hx hb dX3_run_32 hl (by decide) rfl (fun ls hl => ?_)
  have lp4 : ∀ (n i : Nat) (F : Nat → Int32) (B : Nat → Nat → Int32) (G : xG) (H : Heap) (locs : List Loc) (ls : Array Slot), i + n = 11 →  F 32 = 0 → F 38 = 0 → F 44 = 0 → B 11 0 = 0 → B 11 1 = 30 → B 11 2 = 2 → F 1858 = (-1) → F 50 = (-1) → (∀ i, G.2 15 i = none) → B 84 0 = (-1) → B 84 1 = (-1) → B 84 2 = (-1) → va_P D vwCl (xW K r F B G) H → va_D A (xW K r F B G) → va_S A s.heap H locs → lv_has ls 6 [(5, .int (nI i)), (0, .ref (r 58)), (1, .int 63), (2, .int 200), (3, .ref (r 81)), (4, .int 0)] → W p l e (rmD 4 0 0) s m ([.ref (r 58), .int 63, .int 200, .ref (r 81), .int 0] : List Value).toArray below meth c H locs 0 0 (kQi D (tysK K) (fun v (u : xS) => v = 0 ∧ u.1 32 = 0 ∧ u.1 38 = 0 ∧ u.1 44 = 0 ∧ u.2.1 11 0 = 0 ∧ u.2.1 11 1 = 30 ∧ u.2.1 11 2 = 2 ∧ u.1 1858 = (-1) ∧ u.1 50 = (-1) ∧ (∀ i, u.2.2.2 15 i = none) ∧ u.2.1 84 0 = (-1) ∧ u.2.1 84 1 = (-1) ∧ u.2.1 84 2 = (-1)) (fun u => xW K r u.1 u.2.1 u.2.2) A below ([.ref (r 58), .int 63, .int 200, .ref (r 81), .int 0] : List Value).toArray s 0 0) (F0 m 34 ls []) := by
    intro n
    induction n with
    | zero =>
      intro i F B G H locs ls  hin  z0 z1 z2 z3 z4 z5 z6 z7 z8 z9 z10 z11 hP hD hS hl
      obtain rfl : 11 = i := by omega
      have hl : lv_has ls 6 [(5, .int 11), (0, .ref (r 58)), (1, .int 63), (2, .int 200), (3, .ref (r 81)), (4, .int 0)] := hl
      refine lv_iload hx hb dX3_run_34 (lv_at hl 0 rfl) ?_
      refine lv_bipush (v := 11) hx hb dX3_run_36 (by decide) ?_
      refine lv_icmp_ge (tgt := 55) hx hb dX3_run_38 (by decide) (fun c5 => ?_) (fun c5 => absurd (by decide +kernel) c5)
      refine lv_aload_n hx hb dX3_run_55 rfl (lv_at hl 1 rfl) ?_
      refine kV.callW (As := []) (rest := []) ⟨hx, hb, hml, hown, hg⟩ (x_beginL l r F B G z0 z1 z2 z3 z4 z5 z6 z7 z8 z9 z10 z11 ) (cwV 0 hg (kgV wt4_236 wt4_237 wt4_238 wt1_10 wt4_239) rfl rfl rfl (by decide +kernel) ⟨by decide, by decide⟩) hK hP hD hS hA 58 3 rfl rfl rfl hl.1 rfl (Nat.le_of_ble_eq_true rfl) dX3_run_56 ⟨by decide, by decide⟩ (fun u7 H locs hw6 hP hD hS => ?_)
      obtain ⟨f9, a10, g11⟩ := u7
      have hP : va_P D vwCl (xW K r f9 a10 g11) H := hP
      have hD : va_D A (xW K r f9 a10 g11) := hD
      refine lv_iconst (v := 0) hx hb dX3_run_59 (by decide) ?_
      refine lv_istore (lv' := [(5, .int 0), (0, .ref (r 58)), (1, .int 63), (2, .int 200), (3, .ref (r 81)), (4, .int 0)]) hx hb dX3_run_60 hl (by decide) rfl (fun ls hl => ?_)
      refine lv_iload hx hb dX3_run_62 (lv_at hl 0 rfl) ?_
      refine lv_iload_n hx hb dX3_run_64 rfl (lv_at hl 3 rfl) ?_
      refine lv_icmp_gt (tgt := 132) hx hb dX3_run_65 (by decide) (fun c12 => absurd c12 (by decide +kernel)) (fun c12 => ?_)
      refine lv_aload_n hx hb dX3_run_68 rfl (lv_at hl 1 rfl) ?_
      refine lv_iload hx hb dX3_run_69 (lv_at hl 0 rfl) ?_
      refine lv_aload_n hx hb dX3_run_71 rfl (lv_at hl 4 rfl) ?_
      refine lv_iload hx hb dX3_run_72 (lv_at hl 5 rfl) ?_
      refine kI.callW (As := [.int 0, .ref (r 81), .int 0]) (rest := []) ⟨hx, hb, hml, hown, hg⟩ (x_noteStanding_plan l r f9 a10 g11 hw6.2.2.2.2.2.2.2.2.2.2.2.2.1 ) (cwV 3 hg (kgV wt5_3 wt5_5 wp2_14 wt1_10 wt5_6) rfl rfl rfl (by decide +kernel) ⟨by decide, by decide⟩) hK hP hD hS hA 58 3 rfl rfl rfl hl.1 rfl (Nat.le_of_ble_eq_true rfl) dX3_run_74 ⟨by decide, by decide⟩ (fun v15 u14 H locs hw13 hP hD hS => ?_)
      have hP : va_P D vwCl (xW K r f9 a10 g11) H := hP
      have hD : va_D A (xW K r f9 a10 g11) := hD
      refine k_top (z := 1) (hw13) ?_
      refine lv_if_eq (tgt := 89) hx hb dX3_run_77 (by decide) (fun c16 => absurd c16 (by decide +kernel)) (fun c16 => ?_)
      refine lv_aload_n hx hb dX3_run_80 rfl (lv_at hl 4 rfl) ?_
      refine lv_iload hx hb dX3_run_81 (lv_at hl 5 rfl) ?_
      refine lv_iload hx hb dX3_run_83 (lv_at hl 0 rfl) ?_
      refine va_iast hx hb hK hP hD hS 81 0 rfl rfl (k_in (by decide +kernel)) dX3_run_85 (fun H locs hP hD hS => ?_)
      rw [cl_0] at hP hD
      have hP : va_P D vwCl (xW K r f9 (va_up a10 81 (upd (a10 81) 0 0)) g11) H := hP
      have hD : va_D A (xW K r f9 (va_up a10 81 (upd (a10 81) 0 0)) g11) := hD
      refine k_gen (P := fun z => va_P D vwCl (xW K r f9 z g11) H ∧ va_D A (xW K r f9 z g11)) (va_up a10 81 (upd (a10 81) 0 0)) ⟨hP, hD⟩ (fun a_17 ea_17 hPD => ?_)
      have hP := hPD.1
      have hD := hPD.2
      refine lv_iload hx hb dX3_run_86 (lv_at hl 0 rfl) ?_
      exact kI_ret (v := 0) hx hb hr hlocks rfl hK hS dX3_run_88 (f9, a_17, g11) hP hD ⟨rfl, hw6.1, hw6.2.1, hw6.2.2.1, ((show a_17 11 0 = a10 11 0 from by rw [← ea_17]; rfl).trans hw6.2.2.2.1), ((show a_17 11 1 = a10 11 1 from by rw [← ea_17]; rfl).trans hw6.2.2.2.2.1), ((show a_17 11 2 = a10 11 2 from by rw [← ea_17]; rfl).trans hw6.2.2.2.2.2.1), hw6.2.2.2.2.2.2.1, hw6.2.2.2.2.2.2.2.1, hw6.2.2.2.2.2.2.2.2.1, ((show a_17 84 0 = a10 84 0 from by rw [← ea_17]; rfl).trans hw6.2.2.2.2.2.2.2.2.2.1), ((show a_17 84 1 = a10 84 1 from by rw [← ea_17]; rfl).trans hw6.2.2.2.2.2.2.2.2.2.2.1), ((show a_17 84 2 = a10 84 2 from by rw [← ea_17]; rfl).trans hw6.2.2.2.2.2.2.2.2.2.2.2.1)⟩
    | succ n ih =>
      intro i F B G H locs ls  hin  z0 z1 z2 z3 z4 z5 z6 z7 z8 z9 z10 z11 hP hD hS hl
      have hlt : i < 11 := by omega
      refine lv_iload hx hb dX3_run_34 (lv_at hl 0 rfl) ?_
      refine lv_bipush (v := 11) hx hb dX3_run_36 (by decide) ?_
      refine lv_icmp_ge (tgt := 55) hx hb dX3_run_38 (by decide) (fun c18 => absurd c18 (nI_ge (b := 11) hlt (by decide))) (fun c18 => ?_)
      refine lv_aload_n hx hb dX3_run_41 rfl (lv_at hl 4 rfl) ?_
      refine lv_iload hx hb dX3_run_42 (lv_at hl 5 rfl) ?_
      refine lv_iload hx hb dX3_run_44 (lv_at hl 0 rfl) ?_
      refine lv_iadd hx hb dX3_run_46 ?_
      refine k_top (z := nI (0 + i)) (nI_add 0 i) ?_
      refine lv_iconst (v := (-1)) hx hb dX3_run_47 (by decide) ?_
      refine va_iast hx hb hK hP hD hS 81 0 rfl rfl (vp_in_nI (by omega) (by decide)) dX3_run_48 (fun H locs hP hD hS => ?_)
      rw [nI_clamp (n := (0 + i)) (by omega)] at hP hD
      have hP : va_P D vwCl (xW K r F (va_up B 81 (upd (B 81) (0 + i) (-1))) G) H := hP
      have hD : va_D A (xW K r F (va_up B 81 (upd (B 81) (0 + i) (-1))) G) := hD
      refine k_gen (P := fun z => va_P D vwCl (xW K r F z G) H ∧ va_D A (xW K r F z G)) (va_up B 81 (upd (B 81) (0 + i) (-1))) ⟨hP, hD⟩ (fun a_19 ea_19 hPD => ?_)
      have hP := hPD.1
      have hD := hPD.2
      refine lv_iinc (v := nI (i + 1)) (lv' := [(5, .int (nI (i + 1))), (0, .ref (r 58)), (1, .int 63), (2, .int 200), (3, .ref (r 81)), (4, .int 0)]) hx hb dX3_run_49 hl (k := 0) rfl (nI_1 _) (by decide) rfl (fun ls hl => ?_)
      refine lv_goto (tgt := 34) hx hb dX3_run_52 (by decide) ?_
      exact ih (i + 1) F a_19 G _ _ _  (by omega)  z0 z1 z2 ((show a_19 11 0 = B 11 0 from by rw [← ea_19]; rfl).trans z3) ((show a_19 11 1 = B 11 1 from by rw [← ea_19]; rfl).trans z4) ((show a_19 11 2 = B 11 2 from by rw [← ea_19]; rfl).trans z5) z6 z7 z8 ((show a_19 84 0 = B 84 0 from by rw [← ea_19]; rfl).trans z9) ((show a_19 84 1 = B 84 1 from by rw [← ea_19]; rfl).trans z10) ((show a_19 84 2 = B 84 2 from by rw [← ea_19]; rfl).trans z11) hP hD hS (lv_sub hl [0, 1, 2, 3, 4, 5] rfl)
  exact lp4 (11 - 0) 0 f a g _ _ _  (by omega)  h0 h1 h2 h3 h4 h5 h6 h7 h8 h9 h10 h11 hP hD hS hl
set_option maxHeartbeats 4000000 in
set_option maxRecDepth 100000 in
theorem x_planTicksL (l : Launch) {D : va_G} {K : Nat → ClassId} (r : Nat → Nat) (f : Nat → Int32) (a : Nat → Nat → Int32) (g : xG) (h0 : f 32 = 0) (h1 : f 38 = 0) (h2 : f 44 = 0) (h3 : a 11 0 = 0) (h4 : a 11 1 = 30) (h5 : a 11 2 = 2) (h6 : f 1858 = (-1)) (h7 : f 50 = (-1)) (h8 : (∀ i, g.2 15 i = none)) (h9 : a 84 0 = (-1)) (h10 : a 84 1 = (-1)) (h11 : a 84 2 = (-1)) (h12 : a 81 0 = (-2))   : kI l yX9_planTicks (Cond.code yX9_planTicks cX9_planTicks 1 (some .int) :: kG) (rmD 5 0 0) D (tysK K) [.ref (r 80)] (xW K r f a g) (fun v (u : xS) => v = 0 ∧ u.1 32 = 0 ∧ u.1 38 = 0 ∧ u.1 44 = 0 ∧ u.2.1 11 0 = 0 ∧ u.2.1 11 1 = 30 ∧ u.2.1 11 2 = 2 ∧ u.1 1858 = (-1) ∧ u.1 50 = (-1) ∧ (∀ i, u.2.2.2 15 i = none) ∧ u.2.1 84 0 = (-1) ∧ u.2.1 84 1 = (-1) ∧ u.2.1 84 2 = (-1)) (fun u => xW K r u.1 u.2.1 u.2.2) 0 0 := by
  refine kI.of (cc := cX9_planTicks) (maxL := 1) (ret := (some .int)) (by decide) rfl (Nat.le_of_ble_eq_true rfl) ?_
  intro p e s m below meth c A hx hb hr hml hown hts hlocks hnm hK hP hD hS hA ls hl
  have hg : ∀ w ∈ kG, w.before _ s = true := fun w h => hts w (List.mem_cons_of_mem _ h)
  have hown : s.vm.findClass RX9 = some m.cls := hown
  have hl : lv_has ls 1 [(0, .ref (r 80))] := hl
  refine lv_aload_n hx hb dX9_planTicks_0 rfl (lv_at hl 0 rfl) ?_
  refine va_get (D := D) (ci := 9) (v := .ref (r 58)) (C := RX9) (T := TX9) (N := 10) hx hb hg inC9 hown hK hP 80 rfl rfl 1 (by decide) (hg _ wt2_116) (fun _ h9 => h9) rfl dX9_planTicks_1 ?_
  refine lv_bipush (v := 63) hx hb dX9_planTicks_4 (by decide) ?_
  refine lv_sipush (v := 200) hx hb dX9_planTicks_6 (by decide) ?_
  refine lv_aload_n hx hb dX9_planTicks_9 rfl (lv_at hl 0 rfl) ?_
  refine va_get (D := D) (ci := 9) (v := .ref (r 81)) (C := RX9) (T := TX9) (N := 10) hx hb hg inC9 hown hK hP 80 rfl rfl 2 (by decide) (hg _ wt2_117) (fun _ h9 => h9) rfl dX9_planTicks_10 ?_
  refine lv_iconst (v := 0) hx hb dX9_planTicks_13 (by decide) ?_
  refine kI.callW (As := [.int 63, .int 200, .ref (r 81), .int 0]) (rest := []) ⟨hx, hb, hml, hown, hg⟩ (x_runPlanL l r f a g h0 h1 h2 h3 h4 h5 h6 h7 h8 h9 h10 h11 h12 ) (cwV 4 hg (kgV wt4_232 wt4_233 wt4_234 wt1_10 wt4_235) rfl rfl rfl (by decide +kernel) ⟨by decide, by decide⟩) hK hP hD hS hA 58 3 rfl rfl rfl hl.1 rfl (Nat.le_of_ble_eq_true rfl) dX9_planTicks_14 ⟨by decide, by decide⟩ (fun v3 u2 H locs hw1 hP hD hS => ?_)
  obtain ⟨f4, a5, g6⟩ := u2
  have hP : va_P D vwCl (xW K r f4 a5 g6) H := hP
  have hD : va_D A (xW K r f4 a5 g6) := hD
  refine k_top (z := 0) (hw1.1) ?_
  exact kI_ret (v := 0) hx hb hr hlocks rfl hK hS dX9_planTicks_17 (f4, a5, g6) hP hD ⟨rfl, hw1.2.1, hw1.2.2.1, hw1.2.2.2.1, hw1.2.2.2.2.1, hw1.2.2.2.2.2.1, hw1.2.2.2.2.2.2.1, hw1.2.2.2.2.2.2.2.1, hw1.2.2.2.2.2.2.2.2.1, hw1.2.2.2.2.2.2.2.2.2.1, hw1.2.2.2.2.2.2.2.2.2.2.1, hw1.2.2.2.2.2.2.2.2.2.2.2.1, hw1.2.2.2.2.2.2.2.2.2.2.2.2⟩
set_option maxHeartbeats 4000000 in
set_option maxRecDepth 100000 in
theorem x_bestLesson0 (l : Launch) {D : va_G} {K : Nat → ClassId} (r : Nat → Nat) (f : Nat → Int32) (a : Nat → Nat → Int32) (g : xG) (h0 : f 32 = 0) (h1 : f 38 = 0) (h2 : f 44 = 0) (h3 : a 11 0 = 0) (h4 : a 11 1 = 30) (h5 : a 11 2 = 2) (h6 : f 1858 = (-1)) (h7 : f 50 = (-1)) (h8 : (∀ i, g.2 15 i = none)) (h9 : a 81 0 = (-2)) (h10 : f 2566 = 0)   : kI l yX9_bestLesson (Cond.code yX9_bestLesson cX9_bestLesson 7 (some .int) :: kG) (rmD 6 0 0) D (tysK K) [.ref (r 80), .int 0] (xW K r f a g) (fun v (u : xS) => v = (-1)) (fun u => xW K r u.1 u.2.1 u.2.2) 0 0 := by
  refine kI.of (cc := cX9_bestLesson) (maxL := 7) (ret := (some .int)) (by decide) rfl (Nat.le_of_ble_eq_true rfl) ?_
  intro p e s m below meth c A hx hb hr hml hown hts hlocks hnm hK hP hD hS hA ls hl
  have hg : ∀ w ∈ kG, w.before _ s = true := fun w h => hts w (List.mem_cons_of_mem _ h)
  have hown : s.vm.findClass RX9 = some m.cls := hown
  have hl : lv_has ls 7 [(0, .ref (r 80)), (1, .int 0)] := hl
  refine lv_aload_n hx hb dX9_bestLesson_0 rfl (lv_at hl 0 rfl) ?_
  refine va_get (D := D) (ci := 9) (v := .int (f 2566)) (C := RX9) (T := TX9) (N := 10) hx hb hg inC9 hown hK hP 80 rfl rfl 6 (by decide) (hg _ wt2_121) (fun _ h9 => h9) rfl dX9_bestLesson_1 ?_
  refine k_top (z := 0) h10 ?_
  refine lv_if_ne (tgt := 152) hx hb dX9_bestLesson_4 (by decide) (fun c1 => absurd (by decide +kernel) c1) (fun c1 => ?_)
  refine lv_aload_n hx hb dX9_bestLesson_7 rfl (lv_at hl 0 rfl) ?_
  refine va_get (D := D) (ci := 9) (v := .ref (r 84)) (C := RX9) (T := TX9) (N := 10) hx hb hg inC9 hown hK hP 80 rfl rfl 7 (by decide) (hg _ wt2_122) (fun _ h9 => h9) rfl dX9_bestLesson_8 ?_
  refine lv_iconst (v := (-1)) hx hb dX9_bestLesson_11 (by decide) ?_
  refine kV.callA (q0 := 84) (As := [.ref (r 84), .int (-1)]) (rest := []) ⟨hx, hb, hml, hown, hg⟩ (x_fill l (r 84) 3 (a 84) (-1) (by decide)) (va_cwS 2 hg (kgS wt5_51 wt3_232 wt1_19 wt3_233) rfl rfl rfl (by decide +kernel) ⟨by decide, by decide⟩) hK hP hD hS hA rfl rfl hl.1 rfl (Nat.le_of_ble_eq_true rfl) dX9_bestLesson_12 ⟨by decide, by decide⟩ (fun u2 H locs hw3 hP hD hS => ?_)
  have hP : va_P D vwCl (xW K r f (va_up a 84 u2) g) H := hP
  have hD : va_D A (xW K r f (va_up a 84 u2) g) := hD
  refine k_gen (P := fun z => va_P D vwCl (xW K r f z g) H ∧ va_D A (xW K r f z g)) (va_up a 84 u2) ⟨hP, hD⟩ (fun a_4 ea_4 hPD => ?_)
  have hP := hPD.1
  have hD := hPD.2
  refine lv_aload_n hx hb dX9_bestLesson_15 rfl (lv_at hl 0 rfl) ?_
  refine kI.callW (As := []) (rest := []) ⟨hx, hb, hml, hown, hg⟩ (x_planTicksL l r f a_4 g h0 h1 h2 ((show a_4 11 0 = a 11 0 from by rw [← ea_4]; rfl).trans h3) ((show a_4 11 1 = a 11 1 from by rw [← ea_4]; rfl).trans h4) ((show a_4 11 2 = a 11 2 from by rw [← ea_4]; rfl).trans h5) h6 h7 h8 ((show a_4 84 0 = u2 0 from by rw [← ea_4]; rfl).trans (hw3 0 (by decide))) ((show a_4 84 1 = u2 1 from by rw [← ea_4]; rfl).trans (hw3 1 (by decide))) ((show a_4 84 2 = u2 2 from by rw [← ea_4]; rfl).trans (hw3 2 (by decide))) ((show a_4 81 0 = a 81 0 from by rw [← ea_4]; rfl).trans h9) ) (cwV 0 hg (kgV wt5_27 wt4_229 wt4_230 wt1_11 wt4_231) rfl rfl rfl (by decide +kernel) ⟨by decide, by decide⟩) hK hP hD hS hA 80 9 rfl rfl rfl hl.1 rfl (Nat.le_of_ble_eq_true rfl) dX9_bestLesson_16 ⟨by decide, by decide⟩ (fun v7 u6 H locs hw5 hP hD hS => ?_)
  obtain ⟨f8, a9, g10⟩ := u6
  have hP : va_P D vwCl (xW K r f8 a9 g10) H := hP
  have hD : va_D A (xW K r f8 a9 g10) := hD
  refine k_top (z := 0) (hw5.1) ?_
  refine lv_istore_n (lv' := [(2, .int 0), (0, .ref (r 80)), (1, .int 0)]) hx hb dX9_bestLesson_19 rfl hl (by decide) rfl (fun ls hl => ?_)
  refine lv_iload_n hx hb dX9_bestLesson_20 rfl (lv_at hl 0 rfl) ?_
  refine lv_iconst (v := (-1)) hx hb dX9_bestLesson_21 (by decide) ?_
  refine lv_icmp_ne (tgt := 31) hx hb dX9_bestLesson_22 (by decide) (fun c11 => ?_) (fun c11 => absurd c11 (by decide +kernel))
  refine lv_iload_n hx hb dX9_bestLesson_31 rfl (lv_at hl 0 rfl) ?_
  refine lv_iconst (v := 1) hx hb dX9_bestLesson_32 (by decide) ?_
  refine lv_isub hx hb dX9_bestLesson_33 ?_
  refine k_top (z := (-1)) (by decide +kernel) ?_
  refine lv_istore_n (lv' := [(3, .int (-1)), (2, .int 0), (0, .ref (r 80)), (1, .int 0)]) hx hb dX9_bestLesson_34 rfl hl (by decide) rfl (fun ls hl => ?_)
  refine lv_iconst (v := 0) hx hb dX9_bestLesson_35 (by decide) ?_
  refine lv_istore (lv' := [(4, .int 0), (3, .int (-1)), (2, .int 0), (0, .ref (r 80)), (1, .int 0)]) hx hb dX9_bestLesson_36 hl (by decide) rfl (fun ls hl => ?_)
  refine lv_iload hx hb dX9_bestLesson_38 (lv_at hl 0 rfl) ?_
  refine lv_aload_n hx hb dX9_bestLesson_40 rfl (lv_at hl 3 rfl) ?_
  refine va_get (D := D) (ci := 9) (v := .ref (r 1)) (C := RX9) (T := TX9) (N := 10) hx hb hg inC9 hown hK hP 80 rfl rfl 0 (by decide) (hg _ wt2_115) (fun _ h9 => h9) rfl dX9_bestLesson_41 ?_
  refine va_get (D := D) (ci := 7) (v := .int (f8 38)) (C := RX7) (T := TX7) (N := 20) hx hb hg inC7 hown hK hP 1 rfl rfl 6 (by decide) (hg _ wt1_107) (fun _ h9 => h9) rfl dX9_bestLesson_44 ?_
  refine k_top (z := 0) hw5.2.2.1 ?_
  refine lv_icmp_ge (tgt := 147) hx hb dX9_bestLesson_47 (by decide) (fun c12 => ?_) (fun c12 => absurd (by decide +kernel) c12)
  refine lv_aload_n hx hb dX9_bestLesson_147 rfl (lv_at hl 3 rfl) ?_
  refine lv_iconst (v := 1) hx hb dX9_bestLesson_148 (by decide) ?_
  refine va_put (D := D) (ci := 9) (v := .int 1) (ty := .boolean) (C := RX9) (T := TX9) (N := 10) hx hb hg inC9 tyX9 tyX9_ok nmX9 hown hK hP hD hS 80 rfl rfl 6 (by decide) (hg _ wt2_121) (fun _ h9 => h9) rfl (by decide +kernel) rfl rfl (Nat.le_of_ble_eq_true rfl) dX9_bestLesson_149 (fun H locs hP hD hS => ?_)
  have hP : va_P D vwCl (xW K r (upd f8 2566 1) a9 g10) H := hP
  have hD : va_D A (xW K r (upd f8 2566 1) a9 g10) := hD
  refine k_gen (P := fun z => va_P D vwCl (xW K r z a9 g10) H ∧ va_D A (xW K r z a9 g10)) (upd f8 2566 1) ⟨hP, hD⟩ (fun f_13 ef_13 hPD => ?_)
  have hP := hPD.1
  have hD := hPD.2
  refine lv_iload_n hx hb dX9_bestLesson_152 rfl (lv_at hl 4 rfl) ?_
  refine lv_if_lt (tgt := 174) hx hb dX9_bestLesson_153 (by decide) (fun c14 => absurd c14 (by decide +kernel)) (fun c14 => ?_)
  refine lv_iload_n hx hb dX9_bestLesson_156 rfl (lv_at hl 4 rfl) ?_
  refine lv_aload_n hx hb dX9_bestLesson_157 rfl (lv_at hl 3 rfl) ?_
  refine va_get (D := D) (ci := 9) (v := .ref (r 84)) (C := RX9) (T := TX9) (N := 10) hx hb hg inC9 hown hK hP 80 rfl rfl 7 (by decide) (hg _ wt2_122) (fun _ h9 => h9) rfl dX9_bestLesson_158 ?_
  refine va_alen (v := 3) hx hb hK hP 84 0 rfl rfl rfl dX9_bestLesson_161 ?_
  refine lv_icmp_ge (tgt := 174) hx hb dX9_bestLesson_162 (by decide) (fun c15 => absurd c15 (by decide +kernel)) (fun c15 => ?_)
  refine lv_aload_n hx hb dX9_bestLesson_165 rfl (lv_at hl 3 rfl) ?_
  refine va_get (D := D) (ci := 9) (v := .ref (r 84)) (C := RX9) (T := TX9) (N := 10) hx hb hg inC9 hown hK hP 80 rfl rfl 7 (by decide) (hg _ wt2_122) (fun _ h9 => h9) rfl dX9_bestLesson_166 ?_
  refine lv_iload_n hx hb dX9_bestLesson_169 rfl (lv_at hl 4 rfl) ?_
  refine va_iald hx hb hK hP 84 0 rfl rfl (k_in (by decide +kernel)) dX9_bestLesson_170 ?_
  refine k_top (z := (-1)) (by rw [cl_0]; exact hw5.2.2.2.2.2.2.2.2.2.2.1) ?_
  refine lv_goto (tgt := 175) hx hb dX9_bestLesson_171 (by decide) ?_
  exact kI_ret (v := (-1)) hx hb hr hlocks rfl hK hS dX9_bestLesson_175 (f_13, a9, g10) hP hD rfl
set_option maxHeartbeats 4000000 in
set_option maxRecDepth 100000 in
theorem x_bestLesson1 (l : Launch) {D : va_G} {K : Nat → ClassId} (r : Nat → Nat) (f : Nat → Int32) (a : Nat → Nat → Int32) (g : xG) (h0 : f 32 = 0) (h1 : f 38 = 0) (h2 : f 44 = 0) (h3 : a 11 0 = 0) (h4 : a 11 1 = 30) (h5 : a 11 2 = 2) (h6 : f 1858 = (-1)) (h7 : f 50 = (-1)) (h8 : (∀ i, g.2 15 i = none)) (h9 : a 81 0 = (-2)) (h10 : f 2566 = 0)   : kI l yX9_bestLesson (Cond.code yX9_bestLesson cX9_bestLesson 7 (some .int) :: kG) (rmD 6 0 0) D (tysK K) [.ref (r 80), .int 1] (xW K r f a g) (fun v (u : xS) => v = (-1)) (fun u => xW K r u.1 u.2.1 u.2.2) 0 0 := by
  refine kI.of (cc := cX9_bestLesson) (maxL := 7) (ret := (some .int)) (by decide) rfl (Nat.le_of_ble_eq_true rfl) ?_
  intro p e s m below meth c A hx hb hr hml hown hts hlocks hnm hK hP hD hS hA ls hl
  have hg : ∀ w ∈ kG, w.before _ s = true := fun w h => hts w (List.mem_cons_of_mem _ h)
  have hown : s.vm.findClass RX9 = some m.cls := hown
  have hl : lv_has ls 7 [(0, .ref (r 80)), (1, .int 1)] := hl
  refine lv_aload_n hx hb dX9_bestLesson_0 rfl (lv_at hl 0 rfl) ?_
  refine va_get (D := D) (ci := 9) (v := .int (f 2566)) (C := RX9) (T := TX9) (N := 10) hx hb hg inC9 hown hK hP 80 rfl rfl 6 (by decide) (hg _ wt2_121) (fun _ h9 => h9) rfl dX9_bestLesson_1 ?_
  refine k_top (z := 0) h10 ?_
  refine lv_if_ne (tgt := 152) hx hb dX9_bestLesson_4 (by decide) (fun c1 => absurd (by decide +kernel) c1) (fun c1 => ?_)
  refine lv_aload_n hx hb dX9_bestLesson_7 rfl (lv_at hl 0 rfl) ?_
  refine va_get (D := D) (ci := 9) (v := .ref (r 84)) (C := RX9) (T := TX9) (N := 10) hx hb hg inC9 hown hK hP 80 rfl rfl 7 (by decide) (hg _ wt2_122) (fun _ h9 => h9) rfl dX9_bestLesson_8 ?_
  refine lv_iconst (v := (-1)) hx hb dX9_bestLesson_11 (by decide) ?_
  refine kV.callA (q0 := 84) (As := [.ref (r 84), .int (-1)]) (rest := []) ⟨hx, hb, hml, hown, hg⟩ (x_fill l (r 84) 3 (a 84) (-1) (by decide)) (va_cwS 2 hg (kgS wt5_51 wt3_232 wt1_19 wt3_233) rfl rfl rfl (by decide +kernel) ⟨by decide, by decide⟩) hK hP hD hS hA rfl rfl hl.1 rfl (Nat.le_of_ble_eq_true rfl) dX9_bestLesson_12 ⟨by decide, by decide⟩ (fun u2 H locs hw3 hP hD hS => ?_)
  have hP : va_P D vwCl (xW K r f (va_up a 84 u2) g) H := hP
  have hD : va_D A (xW K r f (va_up a 84 u2) g) := hD
  refine k_gen (P := fun z => va_P D vwCl (xW K r f z g) H ∧ va_D A (xW K r f z g)) (va_up a 84 u2) ⟨hP, hD⟩ (fun a_4 ea_4 hPD => ?_)
  have hP := hPD.1
  have hD := hPD.2
  refine lv_aload_n hx hb dX9_bestLesson_15 rfl (lv_at hl 0 rfl) ?_
  refine kI.callW (As := []) (rest := []) ⟨hx, hb, hml, hown, hg⟩ (x_planTicksL l r f a_4 g h0 h1 h2 ((show a_4 11 0 = a 11 0 from by rw [← ea_4]; rfl).trans h3) ((show a_4 11 1 = a 11 1 from by rw [← ea_4]; rfl).trans h4) ((show a_4 11 2 = a 11 2 from by rw [← ea_4]; rfl).trans h5) h6 h7 h8 ((show a_4 84 0 = u2 0 from by rw [← ea_4]; rfl).trans (hw3 0 (by decide))) ((show a_4 84 1 = u2 1 from by rw [← ea_4]; rfl).trans (hw3 1 (by decide))) ((show a_4 84 2 = u2 2 from by rw [← ea_4]; rfl).trans (hw3 2 (by decide))) ((show a_4 81 0 = a 81 0 from by rw [← ea_4]; rfl).trans h9) ) (cwV 0 hg (kgV wt5_27 wt4_229 wt4_230 wt1_11 wt4_231) rfl rfl rfl (by decide +kernel) ⟨by decide, by decide⟩) hK hP hD hS hA 80 9 rfl rfl rfl hl.1 rfl (Nat.le_of_ble_eq_true rfl) dX9_bestLesson_16 ⟨by decide, by decide⟩ (fun v7 u6 H locs hw5 hP hD hS => ?_)
  obtain ⟨f8, a9, g10⟩ := u6
  have hP : va_P D vwCl (xW K r f8 a9 g10) H := hP
  have hD : va_D A (xW K r f8 a9 g10) := hD
  refine k_top (z := 0) (hw5.1) ?_
  refine lv_istore_n (lv' := [(2, .int 0), (0, .ref (r 80)), (1, .int 1)]) hx hb dX9_bestLesson_19 rfl hl (by decide) rfl (fun ls hl => ?_)
  refine lv_iload_n hx hb dX9_bestLesson_20 rfl (lv_at hl 0 rfl) ?_
  refine lv_iconst (v := (-1)) hx hb dX9_bestLesson_21 (by decide) ?_
  refine lv_icmp_ne (tgt := 31) hx hb dX9_bestLesson_22 (by decide) (fun c11 => ?_) (fun c11 => absurd c11 (by decide +kernel))
  refine lv_iload_n hx hb dX9_bestLesson_31 rfl (lv_at hl 0 rfl) ?_
  refine lv_iconst (v := 1) hx hb dX9_bestLesson_32 (by decide) ?_
  refine lv_isub hx hb dX9_bestLesson_33 ?_
  refine k_top (z := (-1)) (by decide +kernel) ?_
  refine lv_istore_n (lv' := [(3, .int (-1)), (2, .int 0), (0, .ref (r 80)), (1, .int 1)]) hx hb dX9_bestLesson_34 rfl hl (by decide) rfl (fun ls hl => ?_)
  refine lv_iconst (v := 0) hx hb dX9_bestLesson_35 (by decide) ?_
  refine lv_istore (lv' := [(4, .int 0), (3, .int (-1)), (2, .int 0), (0, .ref (r 80)), (1, .int 1)]) hx hb dX9_bestLesson_36 hl (by decide) rfl (fun ls hl => ?_)
  refine lv_iload hx hb dX9_bestLesson_38 (lv_at hl 0 rfl) ?_
  refine lv_aload_n hx hb dX9_bestLesson_40 rfl (lv_at hl 3 rfl) ?_
  refine va_get (D := D) (ci := 9) (v := .ref (r 1)) (C := RX9) (T := TX9) (N := 10) hx hb hg inC9 hown hK hP 80 rfl rfl 0 (by decide) (hg _ wt2_115) (fun _ h9 => h9) rfl dX9_bestLesson_41 ?_
  refine va_get (D := D) (ci := 7) (v := .int (f8 38)) (C := RX7) (T := TX7) (N := 20) hx hb hg inC7 hown hK hP 1 rfl rfl 6 (by decide) (hg _ wt1_107) (fun _ h9 => h9) rfl dX9_bestLesson_44 ?_
  refine k_top (z := 0) hw5.2.2.1 ?_
  refine lv_icmp_ge (tgt := 147) hx hb dX9_bestLesson_47 (by decide) (fun c12 => ?_) (fun c12 => absurd (by decide +kernel) c12)
  refine lv_aload_n hx hb dX9_bestLesson_147 rfl (lv_at hl 3 rfl) ?_
  refine lv_iconst (v := 1) hx hb dX9_bestLesson_148 (by decide) ?_
  refine va_put (D := D) (ci := 9) (v := .int 1) (ty := .boolean) (C := RX9) (T := TX9) (N := 10) hx hb hg inC9 tyX9 tyX9_ok nmX9 hown hK hP hD hS 80 rfl rfl 6 (by decide) (hg _ wt2_121) (fun _ h9 => h9) rfl (by decide +kernel) rfl rfl (Nat.le_of_ble_eq_true rfl) dX9_bestLesson_149 (fun H locs hP hD hS => ?_)
  have hP : va_P D vwCl (xW K r (upd f8 2566 1) a9 g10) H := hP
  have hD : va_D A (xW K r (upd f8 2566 1) a9 g10) := hD
  refine k_gen (P := fun z => va_P D vwCl (xW K r z a9 g10) H ∧ va_D A (xW K r z a9 g10)) (upd f8 2566 1) ⟨hP, hD⟩ (fun f_13 ef_13 hPD => ?_)
  have hP := hPD.1
  have hD := hPD.2
  refine lv_iload_n hx hb dX9_bestLesson_152 rfl (lv_at hl 4 rfl) ?_
  refine lv_if_lt (tgt := 174) hx hb dX9_bestLesson_153 (by decide) (fun c14 => absurd c14 (by decide +kernel)) (fun c14 => ?_)
  refine lv_iload_n hx hb dX9_bestLesson_156 rfl (lv_at hl 4 rfl) ?_
  refine lv_aload_n hx hb dX9_bestLesson_157 rfl (lv_at hl 3 rfl) ?_
  refine va_get (D := D) (ci := 9) (v := .ref (r 84)) (C := RX9) (T := TX9) (N := 10) hx hb hg inC9 hown hK hP 80 rfl rfl 7 (by decide) (hg _ wt2_122) (fun _ h9 => h9) rfl dX9_bestLesson_158 ?_
  refine va_alen (v := 3) hx hb hK hP 84 0 rfl rfl rfl dX9_bestLesson_161 ?_
  refine lv_icmp_ge (tgt := 174) hx hb dX9_bestLesson_162 (by decide) (fun c15 => absurd c15 (by decide +kernel)) (fun c15 => ?_)
  refine lv_aload_n hx hb dX9_bestLesson_165 rfl (lv_at hl 3 rfl) ?_
  refine va_get (D := D) (ci := 9) (v := .ref (r 84)) (C := RX9) (T := TX9) (N := 10) hx hb hg inC9 hown hK hP 80 rfl rfl 7 (by decide) (hg _ wt2_122) (fun _ h9 => h9) rfl dX9_bestLesson_166 ?_
  refine lv_iload_n hx hb dX9_bestLesson_169 rfl (lv_at hl 4 rfl) ?_
  refine va_iald hx hb hK hP 84 0 rfl rfl (k_in (by decide +kernel)) dX9_bestLesson_170 ?_
  refine k_top (z := (-1)) (by rw [cl_1]; exact hw5.2.2.2.2.2.2.2.2.2.2.2.1) ?_
  refine lv_goto (tgt := 175) hx hb dX9_bestLesson_171 (by decide) ?_
  exact kI_ret (v := (-1)) hx hb hr hlocks rfl hK hS dX9_bestLesson_175 (f_13, a9, g10) hP hD rfl
set_option maxHeartbeats 4000000 in
set_option maxRecDepth 100000 in
theorem x_bestLesson2 (l : Launch) {D : va_G} {K : Nat → ClassId} (r : Nat → Nat) (f : Nat → Int32) (a : Nat → Nat → Int32) (g : xG) (h0 : f 32 = 0) (h1 : f 38 = 0) (h2 : f 44 = 0) (h3 : a 11 0 = 0) (h4 : a 11 1 = 30) (h5 : a 11 2 = 2) (h6 : f 1858 = (-1)) (h7 : f 50 = (-1)) (h8 : (∀ i, g.2 15 i = none)) (h9 : a 81 0 = (-2)) (h10 : f 2566 = 0)   : kI l yX9_bestLesson (Cond.code yX9_bestLesson cX9_bestLesson 7 (some .int) :: kG) (rmD 6 0 0) D (tysK K) [.ref (r 80), .int 2] (xW K r f a g) (fun v (u : xS) => v = (-1)) (fun u => xW K r u.1 u.2.1 u.2.2) 0 0 := by
  refine kI.of (cc := cX9_bestLesson) (maxL := 7) (ret := (some .int)) (by decide) rfl (Nat.le_of_ble_eq_true rfl) ?_
  intro p e s m below meth c A hx hb hr hml hown hts hlocks hnm hK hP hD hS hA ls hl
  have hg : ∀ w ∈ kG, w.before _ s = true := fun w h => hts w (List.mem_cons_of_mem _ h)
  have hown : s.vm.findClass RX9 = some m.cls := hown
  have hl : lv_has ls 7 [(0, .ref (r 80)), (1, .int 2)] := hl
  refine lv_aload_n hx hb dX9_bestLesson_0 rfl (lv_at hl 0 rfl) ?_
  refine va_get (D := D) (ci := 9) (v := .int (f 2566)) (C := RX9) (T := TX9) (N := 10) hx hb hg inC9 hown hK hP 80 rfl rfl 6 (by decide) (hg _ wt2_121) (fun _ h9 => h9) rfl dX9_bestLesson_1 ?_
  refine k_top (z := 0) h10 ?_
  refine lv_if_ne (tgt := 152) hx hb dX9_bestLesson_4 (by decide) (fun c1 => absurd (by decide +kernel) c1) (fun c1 => ?_)
  refine lv_aload_n hx hb dX9_bestLesson_7 rfl (lv_at hl 0 rfl) ?_
  refine va_get (D := D) (ci := 9) (v := .ref (r 84)) (C := RX9) (T := TX9) (N := 10) hx hb hg inC9 hown hK hP 80 rfl rfl 7 (by decide) (hg _ wt2_122) (fun _ h9 => h9) rfl dX9_bestLesson_8 ?_
  refine lv_iconst (v := (-1)) hx hb dX9_bestLesson_11 (by decide) ?_
  refine kV.callA (q0 := 84) (As := [.ref (r 84), .int (-1)]) (rest := []) ⟨hx, hb, hml, hown, hg⟩ (x_fill l (r 84) 3 (a 84) (-1) (by decide)) (va_cwS 2 hg (kgS wt5_51 wt3_232 wt1_19 wt3_233) rfl rfl rfl (by decide +kernel) ⟨by decide, by decide⟩) hK hP hD hS hA rfl rfl hl.1 rfl (Nat.le_of_ble_eq_true rfl) dX9_bestLesson_12 ⟨by decide, by decide⟩ (fun u2 H locs hw3 hP hD hS => ?_)
  have hP : va_P D vwCl (xW K r f (va_up a 84 u2) g) H := hP
  have hD : va_D A (xW K r f (va_up a 84 u2) g) := hD
  refine k_gen (P := fun z => va_P D vwCl (xW K r f z g) H ∧ va_D A (xW K r f z g)) (va_up a 84 u2) ⟨hP, hD⟩ (fun a_4 ea_4 hPD => ?_)
  have hP := hPD.1
  have hD := hPD.2
  refine lv_aload_n hx hb dX9_bestLesson_15 rfl (lv_at hl 0 rfl) ?_
  refine kI.callW (As := []) (rest := []) ⟨hx, hb, hml, hown, hg⟩ (x_planTicksL l r f a_4 g h0 h1 h2 ((show a_4 11 0 = a 11 0 from by rw [← ea_4]; rfl).trans h3) ((show a_4 11 1 = a 11 1 from by rw [← ea_4]; rfl).trans h4) ((show a_4 11 2 = a 11 2 from by rw [← ea_4]; rfl).trans h5) h6 h7 h8 ((show a_4 84 0 = u2 0 from by rw [← ea_4]; rfl).trans (hw3 0 (by decide))) ((show a_4 84 1 = u2 1 from by rw [← ea_4]; rfl).trans (hw3 1 (by decide))) ((show a_4 84 2 = u2 2 from by rw [← ea_4]; rfl).trans (hw3 2 (by decide))) ((show a_4 81 0 = a 81 0 from by rw [← ea_4]; rfl).trans h9) ) (cwV 0 hg (kgV wt5_27 wt4_229 wt4_230 wt1_11 wt4_231) rfl rfl rfl (by decide +kernel) ⟨by decide, by decide⟩) hK hP hD hS hA 80 9 rfl rfl rfl hl.1 rfl (Nat.le_of_ble_eq_true rfl) dX9_bestLesson_16 ⟨by decide, by decide⟩ (fun v7 u6 H locs hw5 hP hD hS => ?_)
  obtain ⟨f8, a9, g10⟩ := u6
  have hP : va_P D vwCl (xW K r f8 a9 g10) H := hP
  have hD : va_D A (xW K r f8 a9 g10) := hD
  refine k_top (z := 0) (hw5.1) ?_
  refine lv_istore_n (lv' := [(2, .int 0), (0, .ref (r 80)), (1, .int 2)]) hx hb dX9_bestLesson_19 rfl hl (by decide) rfl (fun ls hl => ?_)
  refine lv_iload_n hx hb dX9_bestLesson_20 rfl (lv_at hl 0 rfl) ?_
  refine lv_iconst (v := (-1)) hx hb dX9_bestLesson_21 (by decide) ?_
  refine lv_icmp_ne (tgt := 31) hx hb dX9_bestLesson_22 (by decide) (fun c11 => ?_) (fun c11 => absurd c11 (by decide +kernel))
  refine lv_iload_n hx hb dX9_bestLesson_31 rfl (lv_at hl 0 rfl) ?_
  refine lv_iconst (v := 1) hx hb dX9_bestLesson_32 (by decide) ?_
  refine lv_isub hx hb dX9_bestLesson_33 ?_
  refine k_top (z := (-1)) (by decide +kernel) ?_
  refine lv_istore_n (lv' := [(3, .int (-1)), (2, .int 0), (0, .ref (r 80)), (1, .int 2)]) hx hb dX9_bestLesson_34 rfl hl (by decide) rfl (fun ls hl => ?_)
  refine lv_iconst (v := 0) hx hb dX9_bestLesson_35 (by decide) ?_
  refine lv_istore (lv' := [(4, .int 0), (3, .int (-1)), (2, .int 0), (0, .ref (r 80)), (1, .int 2)]) hx hb dX9_bestLesson_36 hl (by decide) rfl (fun ls hl => ?_)
  refine lv_iload hx hb dX9_bestLesson_38 (lv_at hl 0 rfl) ?_
  refine lv_aload_n hx hb dX9_bestLesson_40 rfl (lv_at hl 3 rfl) ?_
  refine va_get (D := D) (ci := 9) (v := .ref (r 1)) (C := RX9) (T := TX9) (N := 10) hx hb hg inC9 hown hK hP 80 rfl rfl 0 (by decide) (hg _ wt2_115) (fun _ h9 => h9) rfl dX9_bestLesson_41 ?_
  refine va_get (D := D) (ci := 7) (v := .int (f8 38)) (C := RX7) (T := TX7) (N := 20) hx hb hg inC7 hown hK hP 1 rfl rfl 6 (by decide) (hg _ wt1_107) (fun _ h9 => h9) rfl dX9_bestLesson_44 ?_
  refine k_top (z := 0) hw5.2.2.1 ?_
  refine lv_icmp_ge (tgt := 147) hx hb dX9_bestLesson_47 (by decide) (fun c12 => ?_) (fun c12 => absurd (by decide +kernel) c12)
  refine lv_aload_n hx hb dX9_bestLesson_147 rfl (lv_at hl 3 rfl) ?_
  refine lv_iconst (v := 1) hx hb dX9_bestLesson_148 (by decide) ?_
  refine va_put (D := D) (ci := 9) (v := .int 1) (ty := .boolean) (C := RX9) (T := TX9) (N := 10) hx hb hg inC9 tyX9 tyX9_ok nmX9 hown hK hP hD hS 80 rfl rfl 6 (by decide) (hg _ wt2_121) (fun _ h9 => h9) rfl (by decide +kernel) rfl rfl (Nat.le_of_ble_eq_true rfl) dX9_bestLesson_149 (fun H locs hP hD hS => ?_)
  have hP : va_P D vwCl (xW K r (upd f8 2566 1) a9 g10) H := hP
  have hD : va_D A (xW K r (upd f8 2566 1) a9 g10) := hD
  refine k_gen (P := fun z => va_P D vwCl (xW K r z a9 g10) H ∧ va_D A (xW K r z a9 g10)) (upd f8 2566 1) ⟨hP, hD⟩ (fun f_13 ef_13 hPD => ?_)
  have hP := hPD.1
  have hD := hPD.2
  refine lv_iload_n hx hb dX9_bestLesson_152 rfl (lv_at hl 4 rfl) ?_
  refine lv_if_lt (tgt := 174) hx hb dX9_bestLesson_153 (by decide) (fun c14 => absurd c14 (by decide +kernel)) (fun c14 => ?_)
  refine lv_iload_n hx hb dX9_bestLesson_156 rfl (lv_at hl 4 rfl) ?_
  refine lv_aload_n hx hb dX9_bestLesson_157 rfl (lv_at hl 3 rfl) ?_
  refine va_get (D := D) (ci := 9) (v := .ref (r 84)) (C := RX9) (T := TX9) (N := 10) hx hb hg inC9 hown hK hP 80 rfl rfl 7 (by decide) (hg _ wt2_122) (fun _ h9 => h9) rfl dX9_bestLesson_158 ?_
  refine va_alen (v := 3) hx hb hK hP 84 0 rfl rfl rfl dX9_bestLesson_161 ?_
  refine lv_icmp_ge (tgt := 174) hx hb dX9_bestLesson_162 (by decide) (fun c15 => absurd c15 (by decide +kernel)) (fun c15 => ?_)
  refine lv_aload_n hx hb dX9_bestLesson_165 rfl (lv_at hl 3 rfl) ?_
  refine va_get (D := D) (ci := 9) (v := .ref (r 84)) (C := RX9) (T := TX9) (N := 10) hx hb hg inC9 hown hK hP 80 rfl rfl 7 (by decide) (hg _ wt2_122) (fun _ h9 => h9) rfl dX9_bestLesson_166 ?_
  refine lv_iload_n hx hb dX9_bestLesson_169 rfl (lv_at hl 4 rfl) ?_
  refine va_iald hx hb hK hP 84 0 rfl rfl (k_in (by decide +kernel)) dX9_bestLesson_170 ?_
  refine k_top (z := (-1)) (by rw [cl_2]; exact hw5.2.2.2.2.2.2.2.2.2.2.2.2) ?_
  refine lv_goto (tgt := 175) hx hb dX9_bestLesson_171 (by decide) ?_
  exact kI_ret (v := (-1)) hx hb hr hlocks rfl hK hS dX9_bestLesson_175 (f_13, a9, g10) hP hD rfl
