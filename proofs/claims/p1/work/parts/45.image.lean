theorem dX11_image_0 : decode cX11_image 0 = .ok (.iload_n 1, 1) := by decide +kernel
theorem dX11_image_1 : decode cX11_image 1 = .ok (.ifCond .lt 8, 3) := by decide +kernel
theorem dX11_image_4 : decode cX11_image 4 = .ok (.iload_n 1, 1) := by decide +kernel
theorem dX11_image_5 : decode cX11_image 5 = .ok (.iconst 2, 1) := by decide +kernel
theorem dX11_image_6 : decode cX11_image 6 = .ok (.if_icmp .lt 9, 3) := by decide +kernel
theorem dX11_image_9 : decode cX11_image 9 = .ok (.aload_n 0, 1) := by decide +kernel
theorem dX11_image_10 : decode cX11_image 10 = .ok (.iconst (-1), 1) := by decide +kernel
theorem dX11_image_11 : decode cX11_image 11 = .ok (.invokevirtual 114, 3) := by decide +kernel
theorem dX11_image_14 : decode cX11_image 14 = .ok (.ireturn, 1) := by decide +kernel
theorem dX11_image_15 : decode cX11_image 15 = .ok (.aload_n 0, 1) := by decide +kernel
theorem dX11_image_16 : decode cX11_image 16 = .ok (.getfield 82, 3) := by decide +kernel
theorem dX11_image_19 : decode cX11_image 19 = .ok (.iload_n 1, 1) := by decide +kernel
theorem dX11_image_20 : decode cX11_image 20 = .ok (.aaload, 1) := by decide +kernel
theorem dX11_image_21 : decode cX11_image 21 = .ok (.ifnonnull 16, 3) := by decide +kernel
theorem dX11_image_24 : decode cX11_image 24 = .ok (.aload_n 0, 1) := by decide +kernel
theorem dX11_image_25 : decode cX11_image 25 = .ok (.getfield 82, 3) := by decide +kernel
theorem dX11_image_28 : decode cX11_image 28 = .ok (.iload_n 1, 1) := by decide +kernel
theorem dX11_image_29 : decode cX11_image 29 = .ok (.new 7, 3) := by decide +kernel
theorem dX11_image_32 : decode cX11_image 32 = .ok (.dup, 1) := by decide +kernel
theorem dX11_image_33 : decode cX11_image 33 = .ok (.invokespecial 9, 3) := by decide +kernel
theorem dX11_image_36 : decode cX11_image 36 = .ok (.aastore, 1) := by decide +kernel
theorem dX11_image_37 : decode cX11_image 37 = .ok (.aload_n 0, 1) := by decide +kernel
theorem dX11_image_38 : decode cX11_image 38 = .ok (.getfield 82, 3) := by decide +kernel
theorem dX11_image_41 : decode cX11_image 41 = .ok (.iload_n 1, 1) := by decide +kernel
theorem dX11_image_42 : decode cX11_image 42 = .ok (.aaload, 1) := by decide +kernel
theorem dX11_image_43 : decode cX11_image 43 = .ok (.aload_n 0, 1) := by decide +kernel
theorem dX11_image_44 : decode cX11_image 44 = .ok (.getfield 10, 3) := by decide +kernel
theorem dX11_image_47 : decode cX11_image 47 = .ok (.invokevirtual 314, 3) := by decide +kernel
theorem dX11_image_50 : decode cX11_image 50 = .ok (.aload_n 0, 1) := by decide +kernel
theorem dX11_image_51 : decode cX11_image 51 = .ok (.iconst 0, 1) := by decide +kernel
theorem dX11_image_52 : decode cX11_image 52 = .ok (.invokevirtual 225, 3) := by decide +kernel
theorem dX11_image_55 : decode cX11_image 55 = .ok (.ireturn, 1) := by decide +kernel
theorem wt1_22 : Cond.classLink RL 7 RX11 ∈ kG := kt1 22 rfl rfl
theorem wt1_26 : Cond.code yX11_init cX11_init 1 none ∈ kG := kt1 26 rfl rfl
theorem wt1_24 : Cond.methodLink RL 9 yX11_init ∈ kG := kt1 24 rfl rfl
theorem wt1_25 : Cond.instanceMethod yX11_init ∈ kG := kt1 25 rfl rfl
theorem wt5_154 : Cond.classLink RL 10 RX12 ∈ kG := kt5 154 rfl rfl
theorem wt5_158 : Cond.code yX12_init cX12_init 2 none ∈ kG := kt5 158 rfl rfl
theorem wt5_156 : Cond.methodLink RL 12 yX12_init ∈ kG := kt5 156 rfl rfl
theorem wt5_157 : Cond.instanceMethod yX12_init ∈ kG := kt5 157 rfl rfl
theorem wt5_141 : Cond.methodLink RX11 314 yX7_copyFrom ∈ kG := kt5 141 rfl rfl
theorem wt5_137 : Cond.methodLink RL 152 yX11_image ∈ kG := kt5 137 rfl rfl
theorem wt5_138 : Cond.instanceMethod yX11_image ∈ kG := kt5 138 rfl rfl
theorem wt5_139 : Cond.selects RX11 yX11_image yX11_image ∈ kG := kt5 139 rfl rfl
theorem wt5_140 : Cond.code yX11_image cX11_image 2 (some .int) ∈ kG := kt5 140 rfl rfl
theorem wt6_65 : Cond.methodLink RL 155 yX12_image ∈ kG := kt6 65 rfl rfl
theorem wt6_66 : Cond.instanceMethod yX12_image ∈ kG := kt6 66 rfl rfl
theorem wt6_67 : Cond.selects RX12 yX12_image yX12_image ∈ kG := kt6 67 rfl rfl
theorem wt6_68 : Cond.code yX12_image cX12_image 3 (some .int) ∈ kG := kt6 68 rfl rfl
/-- a further Site behind the class's cells -/
def sV (K : Nat → ClassId) (r : Nat → Nat) (f : Nat → Int32) (a : Nat → Nat → Int32) (g : xG) : va_W := [(r 95, .inr (7, [.int (f 3040), .ref (r 96), .ref (r 97), .ref (r 98), .ref (r 99), .ref (r 100), .int (f 3046), .ref (r 101), .ref (r 102), .ref (r 103), .ref (r 104), .ref (r 105), .int (f 3052), .ref (r 106), .ref (r 107), .ref (r 108), .ref (r 109), .int (f 3057), .int (f 3058), .ref (r 110)])), (r 96, .inl (K 0, 10, .inl (a 96))), (r 97, .inl (K 0, 10, .inl (a 97))), (r 98, .inl (K 0, 10, .inl (a 98))), (r 99, .inl (K 0, 10, .inl (a 99))), (r 100, .inl (K 0, 10, .inl (a 100))), (r 101, .inl (K 0, 6, .inl (a 101))), (r 102, .inl (K 0, 6, .inl (a 102))), (r 103, .inl (K 0, 6, .inl (a 103))), (r 104, .inl (K 0, 6, .inl (a 104))), (r 105, .inl (K 0, 4, .inl (a 105))), (r 106, .inl (K 0, 8, .inl (a 106))), (r 107, .inl (K 0, 8, .inl (a 107))), (r 108, .inl (K 0, 8, .inl (a 108))), (r 109, .inl (K 5, 6, .inr (.inr (.inr (.inr (g.2 109)))))), (r 110, .inr (8, [.ref (r 111), .ref (r 112), .ref (r 113), .ref (r 114), .ref (r 115)])), (r 111, .inl (K 3, 10, .inr (.inl (g.1 111)))), (r 112, .inl (K 3, 32, .inr (.inl (g.1 112)))), (r 113, .inl (K 0, 6, .inl (a 113))), (r 114, .inl (K 0, 6, .inl (a 114))), (r 115, .inl (K 0, 10, .inl (a 115)))]
def xV (K : Nat → ClassId) (r : Nat → Nat) (f : Nat → Int32) (a : Nat → Nat → Int32) (g : xG) : va_W := xW K r f a g ++ sV K r f a g
theorem k_topr {p : Program} {l : Launch} {e : Env} {R : Room} {s : State} {m : MethodId} {args : Array Value} {below : List Frame} {meth : Method} {c : Code} {H : Heap} {locs : List Loc} {cells slots : Nat} {Q : State → Prop} {pc : Nat} {ls : Array Slot} {rest : List Value} {x : Option Nat} {v : Nat} (h : x = some v) (k : W p l e R s m args below meth c H locs cells slots Q (F0 m pc ls (.ref v :: rest))) : W p l e R s m args below meth c H locs cells slots Q (F0 m pc ls (va_rf x :: rest)) := by rw [h]; exact k
set_option maxHeartbeats 4000000 in
set_option maxRecDepth 100000 in
theorem x_copyFromI_t218 (l : Launch) {D : va_G} {K : Nat → ClassId} {r : Nat → Nat}  {p : Program} {e : Env} {s : State} {m : MethodId} {below : List Frame} {meth : Method} {c : Code} {A : Nat → Prop} (hx : p.tables.exec = Jvm.exec) (hb : c.code = cX7_copyFrom) (hr : meth.sig.returnType = none) (hml : c.maxLocals = 3) (hown : s.vm.findClass RX7 = some m.cls) (hg : ∀ w ∈ kG, w.before ([.ref (r 95), .ref (r 1)] : List Value).toArray s = true) (hlocks : meth.locks = false) (hK : va_K D vwCl (tysK K) s) (hA : ∀ q, s.heap.size ≤ q → A q) (F : Nat → Int32) (B : Nat → Nat → Int32) (G : xG) (H : Heap) (locs : List Loc) (ls : Array Slot) (z0 : (∀ i, G.2 15 i = none)) (hP : va_P D vwCl (xV K r F B G) H) (hD : va_D A (xV K r F B G)) (hS : va_S A s.heap H locs) (hl : lv_has ls 3 [(0, .ref (r 95)), (1, .ref (r 1))]) : W p l e (rmD 2 0 0) s m ([.ref (r 95), .ref (r 1)] : List Value).toArray below meth c H locs 0 0 (kQv D (tysK K) (fun (u : xS) => True) (fun u => xV K r u.1 u.2.1 u.2.2) A below ([.ref (r 95), .ref (r 1)] : List Value).toArray s 0 0) (F0 m 218 ls []) := by
  refine lv_iconst (v := 0) hx hb dX7_copyFrom_218 (by decide) ?_
  refine lv_istore_n (lv' := [(2, .int 0), (0, .ref (r 95)), (1, .ref (r 1))]) hx hb dX7_copyFrom_219 rfl hl (by decide) rfl (fun ls hl => ?_)
  have lp20 : ∀ (n i : Nat) (F : Nat → Int32) (B : Nat → Nat → Int32) (G : xG) (H : Heap) (locs : List Loc) (ls : Array Slot), i + n = 6 →  (∀ i, G.2 15 i = none) → va_P D vwCl (xV K r F B G) H → va_D A (xV K r F B G) → va_S A s.heap H locs → lv_has ls 3 [(2, .int (nI i)), (0, .ref (r 95)), (1, .ref (r 1))] → W p l e (rmD 2 0 0) s m ([.ref (r 95), .ref (r 1)] : List Value).toArray below meth c H locs 0 0 (kQv D (tysK K) (fun (u : xS) => True) (fun u => xV K r u.1 u.2.1 u.2.2) A below ([.ref (r 95), .ref (r 1)] : List Value).toArray s 0 0) (F0 m 220 ls []) := by
    intro n
    induction n with
    | zero =>
      intro i F B G H locs ls  hin  z0 hP hD hS hl
      obtain rfl : 6 = i := by omega
      have hl : lv_has ls 3 [(2, .int 6), (0, .ref (r 95)), (1, .ref (r 1))] := hl
      refine lv_iload_n hx hb dX7_copyFrom_220 rfl (lv_at hl 0 rfl) ?_
      refine lv_bipush (v := 6) hx hb dX7_copyFrom_221 (by decide) ?_
      refine lv_icmp_ge (tgt := 244) hx hb dX7_copyFrom_223 (by decide) (fun c21 => ?_) (fun c21 => absurd (by decide +kernel) c21)
      refine lv_aload_n hx hb dX7_copyFrom_244 rfl (lv_at hl 1 rfl) ?_
      refine lv_aload_n hx hb dX7_copyFrom_245 rfl (lv_at hl 2 rfl) ?_
      refine va_get (D := D) (ci := 7) (v := .int (F 49)) (C := RX7) (T := TX7) (N := 20) hx hb hg inC7 hown hK hP 1 rfl rfl 17 (by decide) (hg _ wt1_149) (fun _ h9 => h9) rfl dX7_copyFrom_246 ?_
      refine lv_topi (fun t22 et22 => ?_)
      refine va_put (D := D) (ci := 7) (v := .int t22) (ty := .int) (C := RX7) (T := TX7) (N := 20) hx hb hg inC7 tyX7 tyX7_ok nmX7 hown hK hP hD hS 95 rfl rfl 17 (by decide) (hg _ wt1_149) (fun _ h9 => h9) rfl (by decide +kernel) rfl rfl (Nat.le_of_ble_eq_true rfl) dX7_copyFrom_249 (fun H locs hP hD hS => ?_)
      have hP : va_P D vwCl (xV K r (upd F 3057 t22) B G) H := hP
      have hD : va_D A (xV K r (upd F 3057 t22) B G) := hD
      refine k_gen (P := fun z => va_P D vwCl (xV K r z B G) H ∧ va_D A (xV K r z B G)) (upd F 3057 t22) ⟨hP, hD⟩ (fun f_23 ef_23 hPD => ?_)
      have hP := hPD.1
      have hD := hPD.2
      refine lv_aload_n hx hb dX7_copyFrom_252 rfl (lv_at hl 1 rfl) ?_
      refine lv_aload_n hx hb dX7_copyFrom_253 rfl (lv_at hl 2 rfl) ?_
      refine va_get (D := D) (ci := 7) (v := .int (f_23 50)) (C := RX7) (T := TX7) (N := 20) hx hb hg inC7 hown hK hP 1 rfl rfl 18 (by decide) (hg _ wt1_151) (fun _ h9 => h9) rfl dX7_copyFrom_254 ?_
      refine lv_topi (fun t24 et24 => ?_)
      refine va_put (D := D) (ci := 7) (v := .int t24) (ty := .int) (C := RX7) (T := TX7) (N := 20) hx hb hg inC7 tyX7 tyX7_ok nmX7 hown hK hP hD hS 95 rfl rfl 18 (by decide) (hg _ wt1_151) (fun _ h9 => h9) rfl (by decide +kernel) rfl rfl (Nat.le_of_ble_eq_true rfl) dX7_copyFrom_257 (fun H locs hP hD hS => ?_)
      have hP : va_P D vwCl (xV K r (upd f_23 3058 t24) B G) H := hP
      have hD : va_D A (xV K r (upd f_23 3058 t24) B G) := hD
      refine k_gen (P := fun z => va_P D vwCl (xV K r z B G) H ∧ va_D A (xV K r z B G)) (upd f_23 3058 t24) ⟨hP, hD⟩ (fun f_25 ef_25 hPD => ?_)
      have hP := hPD.1
      have hD := hPD.2
      exact kV_ret hx hb hr hlocks hK hS dX7_copyFrom_260 (f_25, B, G) hP hD trivial
    | succ n ih =>
      intro i F B G H locs ls  hin  z0 hP hD hS hl
      have hlt : i < 6 := by omega
      refine lv_iload_n hx hb dX7_copyFrom_220 rfl (lv_at hl 0 rfl) ?_
      refine lv_bipush (v := 6) hx hb dX7_copyFrom_221 (by decide) ?_
      refine lv_icmp_ge (tgt := 244) hx hb dX7_copyFrom_223 (by decide) (fun c26 => absurd c26 (nI_ge (b := 6) hlt (by decide))) (fun c26 => ?_)
      refine lv_aload_n hx hb dX7_copyFrom_226 rfl (lv_at hl 1 rfl) ?_
      refine va_get (D := D) (ci := 7) (v := .ref (r 109)) (C := RX7) (T := TX7) (N := 20) hx hb hg inC7 hown hK hP 95 rfl rfl 16 (by decide) (hg _ wt1_147) (fun _ h9 => h9) rfl dX7_copyFrom_227 ?_
      refine lv_iload_n hx hb dX7_copyFrom_230 rfl (lv_at hl 0 rfl) ?_
      refine lv_aload_n hx hb dX7_copyFrom_231 rfl (lv_at hl 2 rfl) ?_
      refine va_get (D := D) (ci := 7) (v := .ref (r 15)) (C := RX7) (T := TX7) (N := 20) hx hb hg inC7 hown hK hP 1 rfl rfl 16 (by decide) (hg _ wt1_147) (fun _ h9 => h9) rfl dX7_copyFrom_232 ?_
      refine lv_iload_n hx hb dX7_copyFrom_235 rfl (lv_at hl 0 rfl) ?_
      refine va_aldq hx hb hK hP 15 5 rfl rfl (vp_in_nI (by omega) (by decide)) dX7_copyFrom_236 ?_
      rw [nI_clamp (n := i) (by omega)]
      refine k_topn (z0 i) ?_
      refine va_astqN hx hb hK hP hD hS 109 5 rfl rfl (vp_in_nI (by omega) (by decide)) dX7_copyFrom_237 (fun H locs hP hD hS => ?_)
      rw [nI_clamp (n := i) (by omega)] at hP hD
      have hP : va_P D vwCl (xV K r F B (G.1, va_up G.2 109 (va_up (G.2 109) i none))) H := hP
      have hD : va_D A (xV K r F B (G.1, va_up G.2 109 (va_up (G.2 109) i none))) := hD
      refine k_gen (P := fun z => va_P D vwCl (xV K r F B z) H ∧ va_D A (xV K r F B z)) (G.1, va_up G.2 109 (va_up (G.2 109) i none)) ⟨hP, hD⟩ (fun g_27 eg_27 hPD => ?_)
      have hP := hPD.1
      have hD := hPD.2
      refine lv_iinc (v := nI (i + 1)) (lv' := [(2, .int (nI (i + 1))), (0, .ref (r 95)), (1, .ref (r 1))]) hx hb dX7_copyFrom_238 hl (k := 0) rfl (nI_1 _) (by decide) rfl (fun ls hl => ?_)
      refine lv_goto (tgt := 220) hx hb dX7_copyFrom_241 (by decide) ?_
      exact ih (i + 1) F B g_27 _ _ _  (by omega)  (by rw [← eg_27]; exact z0) hP hD hS (lv_sub hl [0, 1, 2] rfl)
  exact lp20 (6 - 0) 0 F B G _ _ _  (by omega)  z0 hP hD hS hl
set_option maxHeartbeats 4000000 in
set_option maxRecDepth 100000 in
theorem x_copyFromI_t151 (l : Launch) {D : va_G} {K : Nat → ClassId} {r : Nat → Nat}  {p : Program} {e : Env} {s : State} {m : MethodId} {below : List Frame} {meth : Method} {c : Code} {A : Nat → Prop} (hx : p.tables.exec = Jvm.exec) (hb : c.code = cX7_copyFrom) (hr : meth.sig.returnType = none) (hml : c.maxLocals = 3) (hown : s.vm.findClass RX7 = some m.cls) (hg : ∀ w ∈ kG, w.before ([.ref (r 95), .ref (r 1)] : List Value).toArray s = true) (hlocks : meth.locks = false) (hK : va_K D vwCl (tysK K) s) (hA : ∀ q, s.heap.size ≤ q → A q) (F : Nat → Int32) (B : Nat → Nat → Int32) (G : xG) (H : Heap) (locs : List Loc) (ls : Array Slot) (z0 : (∀ i, G.2 15 i = none)) (hP : va_P D vwCl (xV K r F B G) H) (hD : va_D A (xV K r F B G)) (hS : va_S A s.heap H locs) (hl : lv_has ls 3 [(0, .ref (r 95)), (1, .ref (r 1))]) : W p l e (rmD 2 0 0) s m ([.ref (r 95), .ref (r 1)] : List Value).toArray below meth c H locs 0 0 (kQv D (tysK K) (fun (u : xS) => True) (fun u => xV K r u.1 u.2.1 u.2.2) A below ([.ref (r 95), .ref (r 1)] : List Value).toArray s 0 0) (F0 m 151 ls []) := by
  refine lv_aload_n hx hb dX7_copyFrom_151 rfl (lv_at hl 1 rfl) ?_
  refine va_get (D := D) (ci := 7) (v := .ref (r 11)) (C := RX7) (T := TX7) (N := 20) hx hb hg inC7 hown hK hP 1 rfl rfl 11 (by decide) (hg _ wt1_127) (fun _ h9 => h9) rfl dX7_copyFrom_152 ?_
  refine lv_iconst (v := 0) hx hb dX7_copyFrom_155 (by decide) ?_
  refine lv_aload_n hx hb dX7_copyFrom_156 rfl (lv_at hl 0 rfl) ?_
  refine va_get (D := D) (ci := 7) (v := .ref (r 105)) (C := RX7) (T := TX7) (N := 20) hx hb hg inC7 hown hK hP 95 rfl rfl 11 (by decide) (hg _ wt1_127) (fun _ h9 => h9) rfl dX7_copyFrom_157 ?_
  refine lv_iconst (v := 0) hx hb dX7_copyFrom_160 (by decide) ?_
  refine lv_iconst (v := 4) hx hb dX7_copyFrom_161 (by decide) ?_
  refine va_copyi (ty := .int) hx hb (hml.trans hl.1.symm) hown (hg _ wt4_83) (hg _ wt4_70) (hg _ wt4_69) (hg _ wt1_20) hK hP hD hS 11 105 0 0 rfl rfl rfl rfl rfl (by decide) (by decide) (by decide) (by decide +kernel) (by decide +kernel) (fun i _ => rfl) (by decide) (Nat.le_of_ble_eq_true rfl) dX7_copyFrom_162 (fun H locs hP hD hS => ?_)
  rw [cl_0] at hP hD
  rw [cl_4] at hP hD
  have hP : va_P D vwCl (xV K r F (va_up B 105 (va_cpy (B 11) (B 105) 0 0 4)) G) H := hP
  have hD : va_D A (xV K r F (va_up B 105 (va_cpy (B 11) (B 105) 0 0 4)) G) := hD
  refine k_gen (P := fun z => va_P D vwCl (xV K r F z G) H ∧ va_D A (xV K r F z G)) (va_up B 105 (va_cpy (B 11) (B 105) 0 0 4)) ⟨hP, hD⟩ (fun a_14 ea_14 hPD => ?_)
  have hP := hPD.1
  have hD := hPD.2
  refine lv_aload_n hx hb dX7_copyFrom_165 rfl (lv_at hl 0 rfl) ?_
  refine lv_aload_n hx hb dX7_copyFrom_166 rfl (lv_at hl 1 rfl) ?_
  refine va_get (D := D) (ci := 7) (v := .int (F 44)) (C := RX7) (T := TX7) (N := 20) hx hb hg inC7 hown hK hP 1 rfl rfl 12 (by decide) (hg _ wt1_135) (fun _ h9 => h9) rfl dX7_copyFrom_167 ?_
  refine lv_topi (fun t15 et15 => ?_)
  refine va_put (D := D) (ci := 7) (v := .int t15) (ty := .int) (C := RX7) (T := TX7) (N := 20) hx hb hg inC7 tyX7 tyX7_ok nmX7 hown hK hP hD hS 95 rfl rfl 12 (by decide) (hg _ wt1_135) (fun _ h9 => h9) rfl (by decide +kernel) rfl rfl (Nat.le_of_ble_eq_true rfl) dX7_copyFrom_170 (fun H locs hP hD hS => ?_)
  have hP : va_P D vwCl (xV K r (upd F 3052 t15) a_14 G) H := hP
  have hD : va_D A (xV K r (upd F 3052 t15) a_14 G) := hD
  refine k_gen (P := fun z => va_P D vwCl (xV K r z a_14 G) H ∧ va_D A (xV K r z a_14 G)) (upd F 3052 t15) ⟨hP, hD⟩ (fun f_16 ef_16 hPD => ?_)
  have hP := hPD.1
  have hD := hPD.2
  refine lv_aload_n hx hb dX7_copyFrom_173 rfl (lv_at hl 1 rfl) ?_
  refine va_get (D := D) (ci := 7) (v := .ref (r 12)) (C := RX7) (T := TX7) (N := 20) hx hb hg inC7 hown hK hP 1 rfl rfl 13 (by decide) (hg _ wt1_138) (fun _ h9 => h9) rfl dX7_copyFrom_174 ?_
  refine lv_iconst (v := 0) hx hb dX7_copyFrom_177 (by decide) ?_
  refine lv_aload_n hx hb dX7_copyFrom_178 rfl (lv_at hl 0 rfl) ?_
  refine va_get (D := D) (ci := 7) (v := .ref (r 106)) (C := RX7) (T := TX7) (N := 20) hx hb hg inC7 hown hK hP 95 rfl rfl 13 (by decide) (hg _ wt1_138) (fun _ h9 => h9) rfl dX7_copyFrom_179 ?_
  refine lv_iconst (v := 0) hx hb dX7_copyFrom_182 (by decide) ?_
  refine lv_bipush (v := 8) hx hb dX7_copyFrom_183 (by decide) ?_
  refine va_copyi (ty := .int) hx hb (hml.trans hl.1.symm) hown (hg _ wt4_83) (hg _ wt4_70) (hg _ wt4_69) (hg _ wt1_20) hK hP hD hS 12 106 0 0 rfl rfl rfl rfl rfl (by decide) (by decide) (by decide) (by decide +kernel) (by decide +kernel) (fun i _ => rfl) (by decide) (Nat.le_of_ble_eq_true rfl) dX7_copyFrom_185 (fun H locs hP hD hS => ?_)
  rw [cl_0] at hP hD
  rw [cl_8] at hP hD
  have hP : va_P D vwCl (xV K r f_16 (va_up a_14 106 (va_cpy (a_14 12) (a_14 106) 0 0 8)) G) H := hP
  have hD : va_D A (xV K r f_16 (va_up a_14 106 (va_cpy (a_14 12) (a_14 106) 0 0 8)) G) := hD
  refine k_gen (P := fun z => va_P D vwCl (xV K r f_16 z G) H ∧ va_D A (xV K r f_16 z G)) (va_up a_14 106 (va_cpy (a_14 12) (a_14 106) 0 0 8)) ⟨hP, hD⟩ (fun a_17 ea_17 hPD => ?_)
  have hP := hPD.1
  have hD := hPD.2
  refine lv_aload_n hx hb dX7_copyFrom_188 rfl (lv_at hl 1 rfl) ?_
  refine va_get (D := D) (ci := 7) (v := .ref (r 13)) (C := RX7) (T := TX7) (N := 20) hx hb hg inC7 hown hK hP 1 rfl rfl 14 (by decide) (hg _ wt1_141) (fun _ h9 => h9) rfl dX7_copyFrom_189 ?_
  refine lv_iconst (v := 0) hx hb dX7_copyFrom_192 (by decide) ?_
  refine lv_aload_n hx hb dX7_copyFrom_193 rfl (lv_at hl 0 rfl) ?_
  refine va_get (D := D) (ci := 7) (v := .ref (r 107)) (C := RX7) (T := TX7) (N := 20) hx hb hg inC7 hown hK hP 95 rfl rfl 14 (by decide) (hg _ wt1_141) (fun _ h9 => h9) rfl dX7_copyFrom_194 ?_
  refine lv_iconst (v := 0) hx hb dX7_copyFrom_197 (by decide) ?_
  refine lv_bipush (v := 8) hx hb dX7_copyFrom_198 (by decide) ?_
  refine va_copyi (ty := .int) hx hb (hml.trans hl.1.symm) hown (hg _ wt4_83) (hg _ wt4_70) (hg _ wt4_69) (hg _ wt1_20) hK hP hD hS 13 107 0 0 rfl rfl rfl rfl rfl (by decide) (by decide) (by decide) (by decide +kernel) (by decide +kernel) (fun i _ => rfl) (by decide) (Nat.le_of_ble_eq_true rfl) dX7_copyFrom_200 (fun H locs hP hD hS => ?_)
  rw [cl_0] at hP hD
  rw [cl_8] at hP hD
  have hP : va_P D vwCl (xV K r f_16 (va_up a_17 107 (va_cpy (a_17 13) (a_17 107) 0 0 8)) G) H := hP
  have hD : va_D A (xV K r f_16 (va_up a_17 107 (va_cpy (a_17 13) (a_17 107) 0 0 8)) G) := hD
  refine k_gen (P := fun z => va_P D vwCl (xV K r f_16 z G) H ∧ va_D A (xV K r f_16 z G)) (va_up a_17 107 (va_cpy (a_17 13) (a_17 107) 0 0 8)) ⟨hP, hD⟩ (fun a_18 ea_18 hPD => ?_)
  have hP := hPD.1
  have hD := hPD.2
  refine lv_aload_n hx hb dX7_copyFrom_203 rfl (lv_at hl 1 rfl) ?_
  refine va_get (D := D) (ci := 7) (v := .ref (r 14)) (C := RX7) (T := TX7) (N := 20) hx hb hg inC7 hown hK hP 1 rfl rfl 15 (by decide) (hg _ wt1_144) (fun _ h9 => h9) rfl dX7_copyFrom_204 ?_
  refine lv_iconst (v := 0) hx hb dX7_copyFrom_207 (by decide) ?_
  refine lv_aload_n hx hb dX7_copyFrom_208 rfl (lv_at hl 0 rfl) ?_
  refine va_get (D := D) (ci := 7) (v := .ref (r 108)) (C := RX7) (T := TX7) (N := 20) hx hb hg inC7 hown hK hP 95 rfl rfl 15 (by decide) (hg _ wt1_144) (fun _ h9 => h9) rfl dX7_copyFrom_209 ?_
  refine lv_iconst (v := 0) hx hb dX7_copyFrom_212 (by decide) ?_
  refine lv_bipush (v := 8) hx hb dX7_copyFrom_213 (by decide) ?_
  refine va_copyi (ty := .int) hx hb (hml.trans hl.1.symm) hown (hg _ wt4_83) (hg _ wt4_70) (hg _ wt4_69) (hg _ wt1_20) hK hP hD hS 14 108 0 0 rfl rfl rfl rfl rfl (by decide) (by decide) (by decide) (by decide +kernel) (by decide +kernel) (fun i _ => rfl) (by decide) (Nat.le_of_ble_eq_true rfl) dX7_copyFrom_215 (fun H locs hP hD hS => ?_)
  rw [cl_0] at hP hD
  rw [cl_8] at hP hD
  have hP : va_P D vwCl (xV K r f_16 (va_up a_18 108 (va_cpy (a_18 14) (a_18 108) 0 0 8)) G) H := hP
  have hD : va_D A (xV K r f_16 (va_up a_18 108 (va_cpy (a_18 14) (a_18 108) 0 0 8)) G) := hD
  refine k_gen (P := fun z => va_P D vwCl (xV K r f_16 z G) H ∧ va_D A (xV K r f_16 z G)) (va_up a_18 108 (va_cpy (a_18 14) (a_18 108) 0 0 8)) ⟨hP, hD⟩ (fun a_19 ea_19 hPD => ?_)
  have hP := hPD.1
  have hD := hPD.2
  exact x_copyFromI_t218 l  hx hb hr hml hown hg hlocks hK hA f_16 a_19 G _ _ _ z0 hP hD hS hl
set_option maxHeartbeats 4000000 in
set_option maxRecDepth 100000 in
theorem x_copyFromI_t83 (l : Launch) {D : va_G} {K : Nat → ClassId} {r : Nat → Nat}  {p : Program} {e : Env} {s : State} {m : MethodId} {below : List Frame} {meth : Method} {c : Code} {A : Nat → Prop} (hx : p.tables.exec = Jvm.exec) (hb : c.code = cX7_copyFrom) (hr : meth.sig.returnType = none) (hml : c.maxLocals = 3) (hown : s.vm.findClass RX7 = some m.cls) (hg : ∀ w ∈ kG, w.before ([.ref (r 95), .ref (r 1)] : List Value).toArray s = true) (hlocks : meth.locks = false) (hK : va_K D vwCl (tysK K) s) (hA : ∀ q, s.heap.size ≤ q → A q) (F : Nat → Int32) (B : Nat → Nat → Int32) (G : xG) (H : Heap) (locs : List Loc) (ls : Array Slot) (z0 : (∀ i, G.2 15 i = none)) (hP : va_P D vwCl (xV K r F B G) H) (hD : va_D A (xV K r F B G)) (hS : va_S A s.heap H locs) (hl : lv_has ls 3 [(0, .ref (r 95)), (1, .ref (r 1))]) : W p l e (rmD 2 0 0) s m ([.ref (r 95), .ref (r 1)] : List Value).toArray below meth c H locs 0 0 (kQv D (tysK K) (fun (u : xS) => True) (fun u => xV K r u.1 u.2.1 u.2.2) A below ([.ref (r 95), .ref (r 1)] : List Value).toArray s 0 0) (F0 m 83 ls []) := by
  refine lv_aload_n hx hb dX7_copyFrom_83 rfl (lv_at hl 0 rfl) ?_
  refine lv_aload_n hx hb dX7_copyFrom_84 rfl (lv_at hl 1 rfl) ?_
  refine va_get (D := D) (ci := 7) (v := .int (F 38)) (C := RX7) (T := TX7) (N := 20) hx hb hg inC7 hown hK hP 1 rfl rfl 6 (by decide) (hg _ wt1_104) (fun _ h9 => h9) rfl dX7_copyFrom_85 ?_
  refine lv_topi (fun t8 et8 => ?_)
  refine va_put (D := D) (ci := 7) (v := .int t8) (ty := .int) (C := RX7) (T := TX7) (N := 20) hx hb hg inC7 tyX7 tyX7_ok nmX7 hown hK hP hD hS 95 rfl rfl 6 (by decide) (hg _ wt1_104) (fun _ h9 => h9) rfl (by decide +kernel) rfl rfl (Nat.le_of_ble_eq_true rfl) dX7_copyFrom_88 (fun H locs hP hD hS => ?_)
  have hP : va_P D vwCl (xV K r (upd F 3046 t8) B G) H := hP
  have hD : va_D A (xV K r (upd F 3046 t8) B G) := hD
  refine k_gen (P := fun z => va_P D vwCl (xV K r z B G) H ∧ va_D A (xV K r z B G)) (upd F 3046 t8) ⟨hP, hD⟩ (fun f_9 ef_9 hPD => ?_)
  have hP := hPD.1
  have hD := hPD.2
  refine lv_aload_n hx hb dX7_copyFrom_91 rfl (lv_at hl 1 rfl) ?_
  refine va_get (D := D) (ci := 7) (v := .ref (r 7)) (C := RX7) (T := TX7) (N := 20) hx hb hg inC7 hown hK hP 1 rfl rfl 7 (by decide) (hg _ wt1_110) (fun _ h9 => h9) rfl dX7_copyFrom_92 ?_
  refine lv_iconst (v := 0) hx hb dX7_copyFrom_95 (by decide) ?_
  refine lv_aload_n hx hb dX7_copyFrom_96 rfl (lv_at hl 0 rfl) ?_
  refine va_get (D := D) (ci := 7) (v := .ref (r 101)) (C := RX7) (T := TX7) (N := 20) hx hb hg inC7 hown hK hP 95 rfl rfl 7 (by decide) (hg _ wt1_110) (fun _ h9 => h9) rfl dX7_copyFrom_97 ?_
  refine lv_iconst (v := 0) hx hb dX7_copyFrom_100 (by decide) ?_
  refine lv_bipush (v := 6) hx hb dX7_copyFrom_101 (by decide) ?_
  refine va_copyi (ty := .int) hx hb (hml.trans hl.1.symm) hown (hg _ wt4_83) (hg _ wt4_70) (hg _ wt4_69) (hg _ wt1_20) hK hP hD hS 7 101 0 0 rfl rfl rfl rfl rfl (by decide) (by decide) (by decide) (by decide +kernel) (by decide +kernel) (fun i _ => rfl) (by decide) (Nat.le_of_ble_eq_true rfl) dX7_copyFrom_103 (fun H locs hP hD hS => ?_)
  rw [cl_0] at hP hD
  rw [cl_6] at hP hD
  have hP : va_P D vwCl (xV K r f_9 (va_up B 101 (va_cpy (B 7) (B 101) 0 0 6)) G) H := hP
  have hD : va_D A (xV K r f_9 (va_up B 101 (va_cpy (B 7) (B 101) 0 0 6)) G) := hD
  refine k_gen (P := fun z => va_P D vwCl (xV K r f_9 z G) H ∧ va_D A (xV K r f_9 z G)) (va_up B 101 (va_cpy (B 7) (B 101) 0 0 6)) ⟨hP, hD⟩ (fun a_10 ea_10 hPD => ?_)
  have hP := hPD.1
  have hD := hPD.2
  refine lv_aload_n hx hb dX7_copyFrom_106 rfl (lv_at hl 1 rfl) ?_
  refine va_get (D := D) (ci := 7) (v := .ref (r 8)) (C := RX7) (T := TX7) (N := 20) hx hb hg inC7 hown hK hP 1 rfl rfl 8 (by decide) (hg _ wt1_114) (fun _ h9 => h9) rfl dX7_copyFrom_107 ?_
  refine lv_iconst (v := 0) hx hb dX7_copyFrom_110 (by decide) ?_
  refine lv_aload_n hx hb dX7_copyFrom_111 rfl (lv_at hl 0 rfl) ?_
  refine va_get (D := D) (ci := 7) (v := .ref (r 102)) (C := RX7) (T := TX7) (N := 20) hx hb hg inC7 hown hK hP 95 rfl rfl 8 (by decide) (hg _ wt1_114) (fun _ h9 => h9) rfl dX7_copyFrom_112 ?_
  refine lv_iconst (v := 0) hx hb dX7_copyFrom_115 (by decide) ?_
  refine lv_bipush (v := 6) hx hb dX7_copyFrom_116 (by decide) ?_
  refine va_copyi (ty := .int) hx hb (hml.trans hl.1.symm) hown (hg _ wt4_83) (hg _ wt4_70) (hg _ wt4_69) (hg _ wt1_20) hK hP hD hS 8 102 0 0 rfl rfl rfl rfl rfl (by decide) (by decide) (by decide) (by decide +kernel) (by decide +kernel) (fun i _ => rfl) (by decide) (Nat.le_of_ble_eq_true rfl) dX7_copyFrom_118 (fun H locs hP hD hS => ?_)
  rw [cl_0] at hP hD
  rw [cl_6] at hP hD
  have hP : va_P D vwCl (xV K r f_9 (va_up a_10 102 (va_cpy (a_10 8) (a_10 102) 0 0 6)) G) H := hP
  have hD : va_D A (xV K r f_9 (va_up a_10 102 (va_cpy (a_10 8) (a_10 102) 0 0 6)) G) := hD
  refine k_gen (P := fun z => va_P D vwCl (xV K r f_9 z G) H ∧ va_D A (xV K r f_9 z G)) (va_up a_10 102 (va_cpy (a_10 8) (a_10 102) 0 0 6)) ⟨hP, hD⟩ (fun a_11 ea_11 hPD => ?_)
  have hP := hPD.1
  have hD := hPD.2
  refine lv_aload_n hx hb dX7_copyFrom_121 rfl (lv_at hl 1 rfl) ?_
  refine va_get (D := D) (ci := 7) (v := .ref (r 9)) (C := RX7) (T := TX7) (N := 20) hx hb hg inC7 hown hK hP 1 rfl rfl 9 (by decide) (hg _ wt1_116) (fun _ h9 => h9) rfl dX7_copyFrom_122 ?_
  refine lv_iconst (v := 0) hx hb dX7_copyFrom_125 (by decide) ?_
  refine lv_aload_n hx hb dX7_copyFrom_126 rfl (lv_at hl 0 rfl) ?_
  refine va_get (D := D) (ci := 7) (v := .ref (r 103)) (C := RX7) (T := TX7) (N := 20) hx hb hg inC7 hown hK hP 95 rfl rfl 9 (by decide) (hg _ wt1_116) (fun _ h9 => h9) rfl dX7_copyFrom_127 ?_
  refine lv_iconst (v := 0) hx hb dX7_copyFrom_130 (by decide) ?_
  refine lv_bipush (v := 6) hx hb dX7_copyFrom_131 (by decide) ?_
  refine va_copyi (ty := .int) hx hb (hml.trans hl.1.symm) hown (hg _ wt4_83) (hg _ wt4_70) (hg _ wt4_69) (hg _ wt1_20) hK hP hD hS 9 103 0 0 rfl rfl rfl rfl rfl (by decide) (by decide) (by decide) (by decide +kernel) (by decide +kernel) (fun i _ => rfl) (by decide) (Nat.le_of_ble_eq_true rfl) dX7_copyFrom_133 (fun H locs hP hD hS => ?_)
  rw [cl_0] at hP hD
  rw [cl_6] at hP hD
  have hP : va_P D vwCl (xV K r f_9 (va_up a_11 103 (va_cpy (a_11 9) (a_11 103) 0 0 6)) G) H := hP
  have hD : va_D A (xV K r f_9 (va_up a_11 103 (va_cpy (a_11 9) (a_11 103) 0 0 6)) G) := hD
  refine k_gen (P := fun z => va_P D vwCl (xV K r f_9 z G) H ∧ va_D A (xV K r f_9 z G)) (va_up a_11 103 (va_cpy (a_11 9) (a_11 103) 0 0 6)) ⟨hP, hD⟩ (fun a_12 ea_12 hPD => ?_)
  have hP := hPD.1
  have hD := hPD.2
  refine lv_aload_n hx hb dX7_copyFrom_136 rfl (lv_at hl 1 rfl) ?_
  refine va_get (D := D) (ci := 7) (v := .ref (r 10)) (C := RX7) (T := TX7) (N := 20) hx hb hg inC7 hown hK hP 1 rfl rfl 10 (by decide) (hg _ wt1_121) (fun _ h9 => h9) rfl dX7_copyFrom_137 ?_
  refine lv_iconst (v := 0) hx hb dX7_copyFrom_140 (by decide) ?_
  refine lv_aload_n hx hb dX7_copyFrom_141 rfl (lv_at hl 0 rfl) ?_
  refine va_get (D := D) (ci := 7) (v := .ref (r 104)) (C := RX7) (T := TX7) (N := 20) hx hb hg inC7 hown hK hP 95 rfl rfl 10 (by decide) (hg _ wt1_121) (fun _ h9 => h9) rfl dX7_copyFrom_142 ?_
  refine lv_iconst (v := 0) hx hb dX7_copyFrom_145 (by decide) ?_
  refine lv_bipush (v := 6) hx hb dX7_copyFrom_146 (by decide) ?_
  refine va_copyi (ty := .int) hx hb (hml.trans hl.1.symm) hown (hg _ wt4_83) (hg _ wt4_70) (hg _ wt4_69) (hg _ wt1_20) hK hP hD hS 10 104 0 0 rfl rfl rfl rfl rfl (by decide) (by decide) (by decide) (by decide +kernel) (by decide +kernel) (fun i _ => rfl) (by decide) (Nat.le_of_ble_eq_true rfl) dX7_copyFrom_148 (fun H locs hP hD hS => ?_)
  rw [cl_0] at hP hD
  rw [cl_6] at hP hD
  have hP : va_P D vwCl (xV K r f_9 (va_up a_12 104 (va_cpy (a_12 10) (a_12 104) 0 0 6)) G) H := hP
  have hD : va_D A (xV K r f_9 (va_up a_12 104 (va_cpy (a_12 10) (a_12 104) 0 0 6)) G) := hD
  refine k_gen (P := fun z => va_P D vwCl (xV K r f_9 z G) H ∧ va_D A (xV K r f_9 z G)) (va_up a_12 104 (va_cpy (a_12 10) (a_12 104) 0 0 6)) ⟨hP, hD⟩ (fun a_13 ea_13 hPD => ?_)
  have hP := hPD.1
  have hD := hPD.2
  exact x_copyFromI_t151 l  hx hb hr hml hown hg hlocks hK hA f_9 a_13 G _ _ _ z0 hP hD hS hl
set_option maxHeartbeats 4000000 in
set_option maxRecDepth 100000 in
theorem x_copyFromI (l : Launch) {D : va_G} {K : Nat → ClassId} (r : Nat → Nat) (f : Nat → Int32) (a : Nat → Nat → Int32) (g : xG) (h0 : (∀ i, g.2 15 i = none))   : kV l yX7_copyFrom (Cond.code yX7_copyFrom cX7_copyFrom 3 none :: kG) (rmD 2 0 0) D (tysK K) [.ref (r 95), .ref (r 1)] (xV K r f a g) (fun (u : xS) => True) (fun u => xV K r u.1 u.2.1 u.2.2) 0 0 := by
  refine kV.of (cc := cX7_copyFrom) (maxL := 3) (ret := none) (by decide) rfl (Nat.le_of_ble_eq_true rfl) ?_
  intro p e s m below meth c A hx hb hr hml hown hts hlocks hnm hK hP hD hS hA ls hl
  have hg : ∀ w ∈ kG, w.before _ s = true := fun w h => hts w (List.mem_cons_of_mem _ h)
  have hown : s.vm.findClass RX7 = some m.cls := hown
  have hl : lv_has ls 3 [(0, .ref (r 95)), (1, .ref (r 1))] := hl
  refine lv_aload_n hx hb dX7_copyFrom_0 rfl (lv_at hl 0 rfl) ?_
  refine lv_aload_n hx hb dX7_copyFrom_1 rfl (lv_at hl 1 rfl) ?_
  refine va_get (D := D) (ci := 7) (v := .int (f 32)) (C := RX7) (T := TX7) (N := 20) hx hb hg inC7 hown hK hP 1 rfl rfl 0 (by decide) (hg _ wt1_79) (fun _ h9 => h9) rfl dX7_copyFrom_2 ?_
  refine lv_topi (fun t1 et1 => ?_)
  refine va_put (D := D) (ci := 7) (v := .int t1) (ty := .int) (C := RX7) (T := TX7) (N := 20) hx hb hg inC7 tyX7 tyX7_ok nmX7 hown hK hP hD hS 95 rfl rfl 0 (by decide) (hg _ wt1_79) (fun _ h9 => h9) rfl (by decide +kernel) rfl rfl (Nat.le_of_ble_eq_true rfl) dX7_copyFrom_5 (fun H locs hP hD hS => ?_)
  have hP : va_P D vwCl (xV K r (upd f 3040 t1) a g) H := hP
  have hD : va_D A (xV K r (upd f 3040 t1) a g) := hD
  refine k_gen (P := fun z => va_P D vwCl (xV K r z a g) H ∧ va_D A (xV K r z a g)) (upd f 3040 t1) ⟨hP, hD⟩ (fun f_2 ef_2 hPD => ?_)
  have hP := hPD.1
  have hD := hPD.2
  refine lv_aload_n hx hb dX7_copyFrom_8 rfl (lv_at hl 1 rfl) ?_
  refine va_get (D := D) (ci := 7) (v := .ref (r 2)) (C := RX7) (T := TX7) (N := 20) hx hb hg inC7 hown hK hP 1 rfl rfl 1 (by decide) (hg _ wt1_86) (fun _ h9 => h9) rfl dX7_copyFrom_9 ?_
  refine lv_iconst (v := 0) hx hb dX7_copyFrom_12 (by decide) ?_
  refine lv_aload_n hx hb dX7_copyFrom_13 rfl (lv_at hl 0 rfl) ?_
  refine va_get (D := D) (ci := 7) (v := .ref (r 96)) (C := RX7) (T := TX7) (N := 20) hx hb hg inC7 hown hK hP 95 rfl rfl 1 (by decide) (hg _ wt1_86) (fun _ h9 => h9) rfl dX7_copyFrom_14 ?_
  refine lv_iconst (v := 0) hx hb dX7_copyFrom_17 (by decide) ?_
  refine lv_bipush (v := 10) hx hb dX7_copyFrom_18 (by decide) ?_
  refine va_copyi (ty := .int) hx hb (hml.trans hl.1.symm) hown (hg _ wt4_83) (hg _ wt4_70) (hg _ wt4_69) (hg _ wt1_20) hK hP hD hS 2 96 0 0 rfl rfl rfl rfl rfl (by decide) (by decide) (by decide) (by decide +kernel) (by decide +kernel) (fun i _ => rfl) (by decide) (Nat.le_of_ble_eq_true rfl) dX7_copyFrom_20 (fun H locs hP hD hS => ?_)
  rw [cl_0] at hP hD
  rw [cl_10] at hP hD
  have hP : va_P D vwCl (xV K r f_2 (va_up a 96 (va_cpy (a 2) (a 96) 0 0 10)) g) H := hP
  have hD : va_D A (xV K r f_2 (va_up a 96 (va_cpy (a 2) (a 96) 0 0 10)) g) := hD
  refine k_gen (P := fun z => va_P D vwCl (xV K r f_2 z g) H ∧ va_D A (xV K r f_2 z g)) (va_up a 96 (va_cpy (a 2) (a 96) 0 0 10)) ⟨hP, hD⟩ (fun a_3 ea_3 hPD => ?_)
  have hP := hPD.1
  have hD := hPD.2
  refine lv_aload_n hx hb dX7_copyFrom_23 rfl (lv_at hl 1 rfl) ?_
  refine va_get (D := D) (ci := 7) (v := .ref (r 3)) (C := RX7) (T := TX7) (N := 20) hx hb hg inC7 hown hK hP 1 rfl rfl 2 (by decide) (hg _ wt1_89) (fun _ h9 => h9) rfl dX7_copyFrom_24 ?_
  refine lv_iconst (v := 0) hx hb dX7_copyFrom_27 (by decide) ?_
  refine lv_aload_n hx hb dX7_copyFrom_28 rfl (lv_at hl 0 rfl) ?_
  refine va_get (D := D) (ci := 7) (v := .ref (r 97)) (C := RX7) (T := TX7) (N := 20) hx hb hg inC7 hown hK hP 95 rfl rfl 2 (by decide) (hg _ wt1_89) (fun _ h9 => h9) rfl dX7_copyFrom_29 ?_
  refine lv_iconst (v := 0) hx hb dX7_copyFrom_32 (by decide) ?_
  refine lv_bipush (v := 10) hx hb dX7_copyFrom_33 (by decide) ?_
  refine va_copyi (ty := .int) hx hb (hml.trans hl.1.symm) hown (hg _ wt4_83) (hg _ wt4_70) (hg _ wt4_69) (hg _ wt1_20) hK hP hD hS 3 97 0 0 rfl rfl rfl rfl rfl (by decide) (by decide) (by decide) (by decide +kernel) (by decide +kernel) (fun i _ => rfl) (by decide) (Nat.le_of_ble_eq_true rfl) dX7_copyFrom_35 (fun H locs hP hD hS => ?_)
  rw [cl_0] at hP hD
  rw [cl_10] at hP hD
  have hP : va_P D vwCl (xV K r f_2 (va_up a_3 97 (va_cpy (a_3 3) (a_3 97) 0 0 10)) g) H := hP
  have hD : va_D A (xV K r f_2 (va_up a_3 97 (va_cpy (a_3 3) (a_3 97) 0 0 10)) g) := hD
  refine k_gen (P := fun z => va_P D vwCl (xV K r f_2 z g) H ∧ va_D A (xV K r f_2 z g)) (va_up a_3 97 (va_cpy (a_3 3) (a_3 97) 0 0 10)) ⟨hP, hD⟩ (fun a_4 ea_4 hPD => ?_)
  have hP := hPD.1
  have hD := hPD.2
  refine lv_aload_n hx hb dX7_copyFrom_38 rfl (lv_at hl 1 rfl) ?_
  refine va_get (D := D) (ci := 7) (v := .ref (r 4)) (C := RX7) (T := TX7) (N := 20) hx hb hg inC7 hown hK hP 1 rfl rfl 3 (by decide) (hg _ wt1_93) (fun _ h9 => h9) rfl dX7_copyFrom_39 ?_
  refine lv_iconst (v := 0) hx hb dX7_copyFrom_42 (by decide) ?_
  refine lv_aload_n hx hb dX7_copyFrom_43 rfl (lv_at hl 0 rfl) ?_
  refine va_get (D := D) (ci := 7) (v := .ref (r 98)) (C := RX7) (T := TX7) (N := 20) hx hb hg inC7 hown hK hP 95 rfl rfl 3 (by decide) (hg _ wt1_93) (fun _ h9 => h9) rfl dX7_copyFrom_44 ?_
  refine lv_iconst (v := 0) hx hb dX7_copyFrom_47 (by decide) ?_
  refine lv_bipush (v := 10) hx hb dX7_copyFrom_48 (by decide) ?_
  refine va_copyi (ty := .int) hx hb (hml.trans hl.1.symm) hown (hg _ wt4_83) (hg _ wt4_70) (hg _ wt4_69) (hg _ wt1_20) hK hP hD hS 4 98 0 0 rfl rfl rfl rfl rfl (by decide) (by decide) (by decide) (by decide +kernel) (by decide +kernel) (fun i _ => rfl) (by decide) (Nat.le_of_ble_eq_true rfl) dX7_copyFrom_50 (fun H locs hP hD hS => ?_)
  rw [cl_0] at hP hD
  rw [cl_10] at hP hD
  have hP : va_P D vwCl (xV K r f_2 (va_up a_4 98 (va_cpy (a_4 4) (a_4 98) 0 0 10)) g) H := hP
  have hD : va_D A (xV K r f_2 (va_up a_4 98 (va_cpy (a_4 4) (a_4 98) 0 0 10)) g) := hD
  refine k_gen (P := fun z => va_P D vwCl (xV K r f_2 z g) H ∧ va_D A (xV K r f_2 z g)) (va_up a_4 98 (va_cpy (a_4 4) (a_4 98) 0 0 10)) ⟨hP, hD⟩ (fun a_5 ea_5 hPD => ?_)
  have hP := hPD.1
  have hD := hPD.2
  refine lv_aload_n hx hb dX7_copyFrom_53 rfl (lv_at hl 1 rfl) ?_
  refine va_get (D := D) (ci := 7) (v := .ref (r 5)) (C := RX7) (T := TX7) (N := 20) hx hb hg inC7 hown hK hP 1 rfl rfl 4 (by decide) (hg _ wt1_95) (fun _ h9 => h9) rfl dX7_copyFrom_54 ?_
  refine lv_iconst (v := 0) hx hb dX7_copyFrom_57 (by decide) ?_
  refine lv_aload_n hx hb dX7_copyFrom_58 rfl (lv_at hl 0 rfl) ?_
  refine va_get (D := D) (ci := 7) (v := .ref (r 99)) (C := RX7) (T := TX7) (N := 20) hx hb hg inC7 hown hK hP 95 rfl rfl 4 (by decide) (hg _ wt1_95) (fun _ h9 => h9) rfl dX7_copyFrom_59 ?_
  refine lv_iconst (v := 0) hx hb dX7_copyFrom_62 (by decide) ?_
  refine lv_bipush (v := 10) hx hb dX7_copyFrom_63 (by decide) ?_
  refine va_copyi (ty := .int) hx hb (hml.trans hl.1.symm) hown (hg _ wt4_83) (hg _ wt4_70) (hg _ wt4_69) (hg _ wt1_20) hK hP hD hS 5 99 0 0 rfl rfl rfl rfl rfl (by decide) (by decide) (by decide) (by decide +kernel) (by decide +kernel) (fun i _ => rfl) (by decide) (Nat.le_of_ble_eq_true rfl) dX7_copyFrom_65 (fun H locs hP hD hS => ?_)
  rw [cl_0] at hP hD
  rw [cl_10] at hP hD
  have hP : va_P D vwCl (xV K r f_2 (va_up a_5 99 (va_cpy (a_5 5) (a_5 99) 0 0 10)) g) H := hP
  have hD : va_D A (xV K r f_2 (va_up a_5 99 (va_cpy (a_5 5) (a_5 99) 0 0 10)) g) := hD
  refine k_gen (P := fun z => va_P D vwCl (xV K r f_2 z g) H ∧ va_D A (xV K r f_2 z g)) (va_up a_5 99 (va_cpy (a_5 5) (a_5 99) 0 0 10)) ⟨hP, hD⟩ (fun a_6 ea_6 hPD => ?_)
  have hP := hPD.1
  have hD := hPD.2
  refine lv_aload_n hx hb dX7_copyFrom_68 rfl (lv_at hl 1 rfl) ?_
  refine va_get (D := D) (ci := 7) (v := .ref (r 6)) (C := RX7) (T := TX7) (N := 20) hx hb hg inC7 hown hK hP 1 rfl rfl 5 (by decide) (hg _ wt1_97) (fun _ h9 => h9) rfl dX7_copyFrom_69 ?_
  refine lv_iconst (v := 0) hx hb dX7_copyFrom_72 (by decide) ?_
  refine lv_aload_n hx hb dX7_copyFrom_73 rfl (lv_at hl 0 rfl) ?_
  refine va_get (D := D) (ci := 7) (v := .ref (r 100)) (C := RX7) (T := TX7) (N := 20) hx hb hg inC7 hown hK hP 95 rfl rfl 5 (by decide) (hg _ wt1_97) (fun _ h9 => h9) rfl dX7_copyFrom_74 ?_
  refine lv_iconst (v := 0) hx hb dX7_copyFrom_77 (by decide) ?_
  refine lv_bipush (v := 10) hx hb dX7_copyFrom_78 (by decide) ?_
  refine va_copyi (ty := .int) hx hb (hml.trans hl.1.symm) hown (hg _ wt4_83) (hg _ wt4_70) (hg _ wt4_69) (hg _ wt1_20) hK hP hD hS 6 100 0 0 rfl rfl rfl rfl rfl (by decide) (by decide) (by decide) (by decide +kernel) (by decide +kernel) (fun i _ => rfl) (by decide) (Nat.le_of_ble_eq_true rfl) dX7_copyFrom_80 (fun H locs hP hD hS => ?_)
  rw [cl_0] at hP hD
  rw [cl_10] at hP hD
  have hP : va_P D vwCl (xV K r f_2 (va_up a_6 100 (va_cpy (a_6 6) (a_6 100) 0 0 10)) g) H := hP
  have hD : va_D A (xV K r f_2 (va_up a_6 100 (va_cpy (a_6 6) (a_6 100) 0 0 10)) g) := hD
  refine k_gen (P := fun z => va_P D vwCl (xV K r f_2 z g) H ∧ va_D A (xV K r f_2 z g)) (va_up a_6 100 (va_cpy (a_6 6) (a_6 100) 0 0 10)) ⟨hP, hD⟩ (fun a_7 ea_7 hPD => ?_)
  have hP := hPD.1
  have hD := hPD.2
  exact x_copyFromI_t83 l  hx hb hr hml hown hg hlocks hK hA f_2 a_7 g _ _ _ h0 hP hD hS hl
set_option maxHeartbeats 4000000 in
set_option maxRecDepth 100000 in
theorem x_image_t0 (l : Launch) {D : va_G} {K : Nat → ClassId} {p : Program} {e : Env} {s : State} {m : MethodId} {below : List Frame} {meth : Method} {c : Code} {A : Nat → Prop} {args : Array Value} {Q : State → Prop} (hx : p.tables.exec = Jvm.exec) (hb : c.code = cX11_image) (hml : c.maxLocals = 2) (hown : s.vm.findClass RX11 = some m.cls) (hg : ∀ w ∈ kG, w.before args s = true) (hK : va_K D vwCl (tysK K) s) (hA : ∀ q, s.heap.size ≤ q → A q) (r : Nat → Nat) (F : Nat → Int32) (B : Nat → Nat → Int32) (G : xG) (H : Heap) (locs : List Loc) (ls : Array Slot) (z0 : ∀ i, G.2 15 i = none) (hP : va_P D vwCl (xV K r F B G) H) (hD : va_D A (xV K r F B G)) (hS : va_S A s.heap H locs) (hl : lv_has ls 2 [(0, .ref (r 0)), (1, .int 0)]) (kk : ∀ (H : Heap) (locs : List Loc), va_S A s.heap H locs → W p l e (rmD 6 21 197) s m args below meth c H locs 21 197 Q (F0 m 55 ls [.int 0])) : W p l e (rmD 6 21 197) s m args below meth c H locs 21 197 Q (F0 m 36 ls [.ref (r 95), .int 0, .ref (r 92)]) := by
  refine va_astq hx hb hK hP hD hS 92 4 95 7 rfl rfl rfl rfl (k_in (by decide +kernel)) dX11_image_36 (fun H locs hP hD hS => ?_)
  rw [cl_0] at hP hD
  refine k_gen (P := fun z => va_P D vwCl (xV K r F B z) H ∧ va_D A (xV K r F B z)) (G.1, va_up G.2 92 (va_up (G.2 92) 0 (some (r 95)))) ⟨hP, hD⟩ (fun G1 eG hPD => ?_)
  have hP := hPD.1
  have hD := hPD.2
  refine lv_aload_n hx hb dX11_image_37 rfl (lv_at hl 0 rfl) ?_
  refine va_get (D := D) (ci := 11) (v := .ref (r 92)) (C := RX11) (T := TX11) (N := 17) hx hb hg inC11 hown hK hP 0 rfl rfl 9 (by decide) (hg _ wt2_195) (fun _ h9 => h9) rfl dX11_image_38 ?_
  refine lv_iload_n hx hb dX11_image_41 rfl (lv_at hl 1 rfl) ?_
  refine va_aldq hx hb hK hP 92 4 rfl rfl (k_in (by decide +kernel)) dX11_image_42 ?_
  rw [cl_0]
  refine k_topr (v := r 95) (by rw [← eG]; rfl) ?_
  refine lv_aload_n hx hb dX11_image_43 rfl (lv_at hl 0 rfl) ?_
  refine va_get (D := D) (ci := 11) (v := .ref (r 1)) (C := RX11) (T := TX11) (N := 17) hx hb hg inC11 hown hK hP 0 rfl rfl 0 (by decide) (hg _ wt2_186) (fun _ h9 => h9) rfl dX11_image_44 ?_
  refine kV.callW (As := [.ref (r 1)]) (rest := []) ⟨hx, hb, hml, hown, hg⟩ (x_copyFromI l r F B G1 (by rw [← eG]; exact z0)) (cwV 1 hg (kgV wt5_141 wt4_80 wt4_81 wt1_2 wt4_82) rfl rfl rfl (by decide +kernel) ⟨by decide, by decide⟩) hK hP hD hS hA 95 7 rfl rfl rfl hl.1 rfl (Nat.le_of_ble_eq_true rfl) dX11_image_47 ⟨by decide, by decide⟩ (fun u H locs _ hP hD hS => ?_)
  obtain ⟨f3, a3, g3⟩ := u
  have hP : va_P D vwCl (xW K r f3 a3 g3 ++ sV K r f3 a3 g3) H := hP
  have hD : va_D A (xW K r f3 a3 g3 ++ sV K r f3 a3 g3) := hD
  refine lv_aload_n hx hb dX11_image_50 rfl (lv_at hl 0 rfl) ?_
  refine lv_iconst (v := 0) hx hb dX11_image_51 (by decide) ?_
  refine kI.callL (As := [.int 0]) (rest := []) ⟨hx, hb, hml, hown, hg⟩ (x_agree l r f3 a3 g3 0) (cwV 1 hg (kgV wt3_27 wt3_29 wp1_2 wt1_1 wt3_30) rfl rfl rfl (by decide +kernel) ⟨by decide, by decide⟩) hK hP hD hS hA 0 11 rfl rfl rfl hl.1 rfl (Nat.le_of_ble_eq_true rfl) dX11_image_52 ⟨by decide, by decide⟩ (fun v u H locs hw hP hD hS => ?_)
  refine k_top (z := 0) hw ?_
  exact kk H locs hS
set_option maxHeartbeats 4000000 in
set_option maxRecDepth 100000 in
theorem x_image_t1 (l : Launch) {D : va_G} {K : Nat → ClassId} {p : Program} {e : Env} {s : State} {m : MethodId} {below : List Frame} {meth : Method} {c : Code} {A : Nat → Prop} {args : Array Value} {Q : State → Prop} (hx : p.tables.exec = Jvm.exec) (hb : c.code = cX11_image) (hml : c.maxLocals = 2) (hown : s.vm.findClass RX11 = some m.cls) (hg : ∀ w ∈ kG, w.before args s = true) (hK : va_K D vwCl (tysK K) s) (hA : ∀ q, s.heap.size ≤ q → A q) (r : Nat → Nat) (F : Nat → Int32) (B : Nat → Nat → Int32) (G : xG) (H : Heap) (locs : List Loc) (ls : Array Slot) (z0 : ∀ i, G.2 15 i = none) (hP : va_P D vwCl (xV K r F B G) H) (hD : va_D A (xV K r F B G)) (hS : va_S A s.heap H locs) (hl : lv_has ls 2 [(0, .ref (r 0)), (1, .int 1)]) (kk : ∀ (H : Heap) (locs : List Loc), va_S A s.heap H locs → W p l e (rmD 6 21 197) s m args below meth c H locs 21 197 Q (F0 m 55 ls [.int 0])) : W p l e (rmD 6 21 197) s m args below meth c H locs 21 197 Q (F0 m 36 ls [.ref (r 95), .int 1, .ref (r 92)]) := by
  refine va_astq hx hb hK hP hD hS 92 4 95 7 rfl rfl rfl rfl (k_in (by decide +kernel)) dX11_image_36 (fun H locs hP hD hS => ?_)
  rw [cl_1] at hP hD
  refine k_gen (P := fun z => va_P D vwCl (xV K r F B z) H ∧ va_D A (xV K r F B z)) (G.1, va_up G.2 92 (va_up (G.2 92) 1 (some (r 95)))) ⟨hP, hD⟩ (fun G1 eG hPD => ?_)
  have hP := hPD.1
  have hD := hPD.2
  refine lv_aload_n hx hb dX11_image_37 rfl (lv_at hl 0 rfl) ?_
  refine va_get (D := D) (ci := 11) (v := .ref (r 92)) (C := RX11) (T := TX11) (N := 17) hx hb hg inC11 hown hK hP 0 rfl rfl 9 (by decide) (hg _ wt2_195) (fun _ h9 => h9) rfl dX11_image_38 ?_
  refine lv_iload_n hx hb dX11_image_41 rfl (lv_at hl 1 rfl) ?_
  refine va_aldq hx hb hK hP 92 4 rfl rfl (k_in (by decide +kernel)) dX11_image_42 ?_
  rw [cl_1]
  refine k_topr (v := r 95) (by rw [← eG]; rfl) ?_
  refine lv_aload_n hx hb dX11_image_43 rfl (lv_at hl 0 rfl) ?_
  refine va_get (D := D) (ci := 11) (v := .ref (r 1)) (C := RX11) (T := TX11) (N := 17) hx hb hg inC11 hown hK hP 0 rfl rfl 0 (by decide) (hg _ wt2_186) (fun _ h9 => h9) rfl dX11_image_44 ?_
  refine kV.callW (As := [.ref (r 1)]) (rest := []) ⟨hx, hb, hml, hown, hg⟩ (x_copyFromI l r F B G1 (by rw [← eG]; exact z0)) (cwV 1 hg (kgV wt5_141 wt4_80 wt4_81 wt1_2 wt4_82) rfl rfl rfl (by decide +kernel) ⟨by decide, by decide⟩) hK hP hD hS hA 95 7 rfl rfl rfl hl.1 rfl (Nat.le_of_ble_eq_true rfl) dX11_image_47 ⟨by decide, by decide⟩ (fun u H locs _ hP hD hS => ?_)
  obtain ⟨f3, a3, g3⟩ := u
  have hP : va_P D vwCl (xW K r f3 a3 g3 ++ sV K r f3 a3 g3) H := hP
  have hD : va_D A (xW K r f3 a3 g3 ++ sV K r f3 a3 g3) := hD
  refine lv_aload_n hx hb dX11_image_50 rfl (lv_at hl 0 rfl) ?_
  refine lv_iconst (v := 0) hx hb dX11_image_51 (by decide) ?_
  refine kI.callL (As := [.int 0]) (rest := []) ⟨hx, hb, hml, hown, hg⟩ (x_agree l r f3 a3 g3 0) (cwV 1 hg (kgV wt3_27 wt3_29 wp1_2 wt1_1 wt3_30) rfl rfl rfl (by decide +kernel) ⟨by decide, by decide⟩) hK hP hD hS hA 0 11 rfl rfl rfl hl.1 rfl (Nat.le_of_ble_eq_true rfl) dX11_image_52 ⟨by decide, by decide⟩ (fun v u H locs hw hP hD hS => ?_)
  refine k_top (z := 0) hw ?_
  exact kk H locs hS
set_option maxHeartbeats 4000000 in
set_option maxRecDepth 100000 in
theorem x_image (l : Launch) {D : va_G} {K : Nat → ClassId} (r : Nat → Nat) (f : Nat → Int32) (a : Nat → Nat → Int32) (g : xG) (h0 : ∀ i, g.2 15 i = none) (h1 : ∀ i, g.2 92 i = none) (x : Int32) : kIE l yX11_image (Cond.code yX11_image cX11_image 2 (some .int) :: kG) (rmD 6 21 197) D (tysK K) (kE K) [.ref (r 0), .int x] (xW K r f a g) (fun v (_ : Unit) => v = (if x = 0 then (0 : Int32) else if x = 1 then 0 else -1)) (fun _ => ([] : va_W)) 21 197 := by
  refine kIE.of (cc := cX11_image) (maxL := 2) (ret := (some .int)) (by decide) rfl (Nat.le_of_ble_eq_true rfl) ?_
  intro p e s m below meth c A hx hb hr hml hown hts hlocks hnm hK hP hD hS hA hE ls hl
  obtain ⟨hN1, hN2, hN3, hN4, hN5, -⟩ := id hE
  have hg : ∀ w ∈ kG, w.before _ s = true := fun w h => hts w (List.mem_cons_of_mem _ h)
  have hown : s.vm.findClass RX11 = some m.cls := hown
  have hl : lv_has ls 2 [(0, .ref (r 0)), (1, .int x)] := hl
  have hP0 : ∀ H : Heap, va_P D vwCl ([] : va_W) H := fun H k q h => by simp at h
  have hD0 : va_D A ([] : va_W) := ⟨fun i j p q h => by simp at h, fun k q h => by simp at h⟩
  by_cases q0 : x = 0
  · subst q0
    have hl : lv_has ls 2 [(0, .ref (r 0)), (1, .int 0)] := hl
    refine lv_iload_n hx hb dX11_image_0 rfl (lv_at hl 1 rfl) ?_
    refine lv_if_lt (tgt := 9) hx hb dX11_image_1 (by decide) (fun c1 => absurd c1 (by decide +kernel)) (fun c1 => ?_)
    refine lv_iload_n hx hb dX11_image_4 rfl (lv_at hl 1 rfl) ?_
    refine lv_iconst (v := 2) hx hb dX11_image_5 (by decide) ?_
    refine lv_icmp_lt (tgt := 15) hx hb dX11_image_6 (by decide) (fun c2 => ?_) (fun c2 => absurd (by decide +kernel) c2)
    refine lv_aload_n hx hb dX11_image_15 rfl (lv_at hl 0 rfl) ?_
    refine va_get (D := D) (ci := 11) (v := .ref (r 92)) (C := RX11) (T := TX11) (N := 17) hx hb hg inC11 hown hK hP 0 rfl rfl 9 (by decide) (hg _ wt2_195) (fun _ h9 => h9) rfl dX11_image_16 ?_
    refine lv_iload_n hx hb dX11_image_19 rfl (lv_at hl 1 rfl) ?_
    refine va_aldq hx hb hK hP 92 4 rfl rfl (k_in (by decide +kernel)) dX11_image_20 ?_
    refine k_topn (h1 _) ?_
    refine lv_ifnonnullN hx hb dX11_image_21 ?_
    refine lv_aload_n hx hb dX11_image_24 rfl (lv_at hl 0 rfl) ?_
    refine va_get (D := D) (ci := 11) (v := .ref (r 92)) (C := RX11) (T := TX11) (N := 17) hx hb hg inC11 hown hK hP 0 rfl rfl 9 (by decide) (hg _ wt2_195) (fun _ h9 => h9) rfl dX11_image_25 ?_
    refine lv_iload_n hx hb dX11_image_28 rfl (lv_at hl 1 rfl) ?_
    refine va_new (ci := 7) (fs := [.int 0, .null, .null, .null, .null, .null, .int 0, .null, .null, .null, .null, .null, .int 0, .null, .null, .null, .null, .int 0, .int 0, .null]) (C := RX7) (T := TX7) (N := 20) hx hb hg inC7 tyX7 tyX7_ok hown (hg _ wt1_30) (hg _ wt1_31) (hg _ wt1_2) hK hP hD hS hA rfl (fun j hj => by rcases (show j = 0 ∨ j = 1 ∨ j = 2 ∨ j = 3 ∨ j = 4 ∨ j = 5 ∨ j = 6 ∨ j = 7 ∨ j = 8 ∨ j = 9 ∨ j = 10 ∨ j = 11 ∨ j = 12 ∨ j = 13 ∨ j = 14 ∨ j = 15 ∨ j = 16 ∨ j = 17 ∨ j = 18 ∨ j = 19 by omega) with rfl | rfl | rfl | rfl | rfl | rfl | rfl | rfl | rfl | rfl | rfl | rfl | rfl | rfl | rfl | rfl | rfl | rfl | rfl | rfl <;> rfl) (by decide) (by decide) dX11_image_29 (fun q H hP hD hS => ?_)
    refine lv_dup hx hb dX11_image_32 rfl ?_
    refine kVE.callIN (ws := xW K r f a g) (As := []) (rest := [.ref q, .int 0, .ref (r 92)]) ⟨hx, hb, hml, hown, hg⟩ (k_X7_init l q) ⟨va_cnB (host := RX11) 0 hg (kgC wt1_34) rfl rfl rfl (hN1 (RX11, 9, yX7_init) (by simp [kNM])) (hg _ wt1_2) (by decide +kernel) ⟨by decide, by decide⟩, rfl, hg _ wt1_33⟩ hE hK hP hD hS hA rfl hl.1 rfl (Nat.le_of_ble_eq_true rfl) dX11_image_33 ⟨by decide, by decide⟩ (fun u H locs _ hP hD hS => ?_)
    exact x_image_t0 l hx hb hml hown hg hK hA (fun k => if k < 95 then r k else if k = 95 then q else u (k - 95)) (fun j => if j < 3040 then f j else if j = 3058 then (-1) else 0) (fun k => if k < 95 then a k else if k = 105 then tf0 else fun _ => 0) ((fun k => if k < 95 then g.1 k else fun _ => 0), (fun k => if k < 95 then g.2 k else fun _ => none)) _ _ _ h0 hP hD hS hl (fun H locs hS => kI_ret (v := 0) hx hb hr hlocks rfl hK hS dX11_image_55 () (hP0 H) hD0 (by decide +kernel))
  by_cases q1 : x = 1
  · subst q1
    have hl : lv_has ls 2 [(0, .ref (r 0)), (1, .int 1)] := hl
    refine lv_iload_n hx hb dX11_image_0 rfl (lv_at hl 1 rfl) ?_
    refine lv_if_lt (tgt := 9) hx hb dX11_image_1 (by decide) (fun c1 => absurd c1 (by decide +kernel)) (fun c1 => ?_)
    refine lv_iload_n hx hb dX11_image_4 rfl (lv_at hl 1 rfl) ?_
    refine lv_iconst (v := 2) hx hb dX11_image_5 (by decide) ?_
    refine lv_icmp_lt (tgt := 15) hx hb dX11_image_6 (by decide) (fun c2 => ?_) (fun c2 => absurd (by decide +kernel) c2)
    refine lv_aload_n hx hb dX11_image_15 rfl (lv_at hl 0 rfl) ?_
    refine va_get (D := D) (ci := 11) (v := .ref (r 92)) (C := RX11) (T := TX11) (N := 17) hx hb hg inC11 hown hK hP 0 rfl rfl 9 (by decide) (hg _ wt2_195) (fun _ h9 => h9) rfl dX11_image_16 ?_
    refine lv_iload_n hx hb dX11_image_19 rfl (lv_at hl 1 rfl) ?_
    refine va_aldq hx hb hK hP 92 4 rfl rfl (k_in (by decide +kernel)) dX11_image_20 ?_
    refine k_topn (h1 _) ?_
    refine lv_ifnonnullN hx hb dX11_image_21 ?_
    refine lv_aload_n hx hb dX11_image_24 rfl (lv_at hl 0 rfl) ?_
    refine va_get (D := D) (ci := 11) (v := .ref (r 92)) (C := RX11) (T := TX11) (N := 17) hx hb hg inC11 hown hK hP 0 rfl rfl 9 (by decide) (hg _ wt2_195) (fun _ h9 => h9) rfl dX11_image_25 ?_
    refine lv_iload_n hx hb dX11_image_28 rfl (lv_at hl 1 rfl) ?_
    refine va_new (ci := 7) (fs := [.int 0, .null, .null, .null, .null, .null, .int 0, .null, .null, .null, .null, .null, .int 0, .null, .null, .null, .null, .int 0, .int 0, .null]) (C := RX7) (T := TX7) (N := 20) hx hb hg inC7 tyX7 tyX7_ok hown (hg _ wt1_30) (hg _ wt1_31) (hg _ wt1_2) hK hP hD hS hA rfl (fun j hj => by rcases (show j = 0 ∨ j = 1 ∨ j = 2 ∨ j = 3 ∨ j = 4 ∨ j = 5 ∨ j = 6 ∨ j = 7 ∨ j = 8 ∨ j = 9 ∨ j = 10 ∨ j = 11 ∨ j = 12 ∨ j = 13 ∨ j = 14 ∨ j = 15 ∨ j = 16 ∨ j = 17 ∨ j = 18 ∨ j = 19 by omega) with rfl | rfl | rfl | rfl | rfl | rfl | rfl | rfl | rfl | rfl | rfl | rfl | rfl | rfl | rfl | rfl | rfl | rfl | rfl | rfl <;> rfl) (by decide) (by decide) dX11_image_29 (fun q H hP hD hS => ?_)
    refine lv_dup hx hb dX11_image_32 rfl ?_
    refine kVE.callIN (ws := xW K r f a g) (As := []) (rest := [.ref q, .int 1, .ref (r 92)]) ⟨hx, hb, hml, hown, hg⟩ (k_X7_init l q) ⟨va_cnB (host := RX11) 0 hg (kgC wt1_34) rfl rfl rfl (hN1 (RX11, 9, yX7_init) (by simp [kNM])) (hg _ wt1_2) (by decide +kernel) ⟨by decide, by decide⟩, rfl, hg _ wt1_33⟩ hE hK hP hD hS hA rfl hl.1 rfl (Nat.le_of_ble_eq_true rfl) dX11_image_33 ⟨by decide, by decide⟩ (fun u H locs _ hP hD hS => ?_)
    exact x_image_t1 l hx hb hml hown hg hK hA (fun k => if k < 95 then r k else if k = 95 then q else u (k - 95)) (fun j => if j < 3040 then f j else if j = 3058 then (-1) else 0) (fun k => if k < 95 then a k else if k = 105 then tf0 else fun _ => 0) ((fun k => if k < 95 then g.1 k else fun _ => 0), (fun k => if k < 95 then g.2 k else fun _ => none)) _ _ _ h0 hP hD hS hl (fun H locs hS => kI_ret (v := 0) hx hb hr hlocks rfl hK hS dX11_image_55 () (hP0 H) hD0 (by decide +kernel))
  have fin : ∀ (H : Heap) (locs : List Loc) (ls : Array Slot), va_P D vwCl (xW K r f a g) H → va_D A (xW K r f a g) → va_S A s.heap H locs → lv_has ls 2 [(0, .ref (r 0)), (1, .int x)] → W p l e (rmD 6 21 197) s m ([.ref (r 0), .int x] : List Value).toArray below meth c H locs 0 0 (kQi D (tysK K) (fun v (_ : Unit) => v = (if x = 0 then (0 : Int32) else if x = 1 then 0 else -1)) (fun _ => ([] : va_W)) A below ([.ref (r 0), .int x] : List Value).toArray s 21 197) (F0 m 9 ls []) := by
    intro H locs ls hP hD hS hl
    refine lv_aload_n hx hb dX11_image_9 rfl (lv_at hl 0 rfl) ?_
    refine lv_iconst (v := (-1)) hx hb dX11_image_10 (by decide) ?_
    refine kI.callW (As := [.int (-1)]) (rest := []) ⟨hx, hb, hml, hown, hg⟩ (x_refuse1 l r f a g) (cwV 1 hg (kgV wt3_7 wt3_9 wp1_0 wt1_1 wt3_10) rfl rfl rfl (by decide +kernel) ⟨by decide, by decide⟩) hK hP hD hS hA 0 11 rfl rfl rfl hl.1 rfl (Nat.le_of_ble_eq_true rfl) dX11_image_11 ⟨by decide, by decide⟩ (fun v u H locs hw hP hD hS => ?_)
    refine k_top (z := (-1)) hw ?_
    refine W.widen (k := 21) (n := 197) (by decide) (by decide) ?_
    exact kI_ret (v := (-1)) hx hb hr hlocks rfl hK hS dX11_image_14 () (hP0 H) hD0 (by rw [if_neg q0, if_neg q1])
  refine lv_iload_n hx hb dX11_image_0 rfl (lv_at hl 1 rfl) ?_
  refine lv_if_lt (tgt := 9) hx hb dX11_image_1 (by decide) (fun c1 => fin _ _ _ hP hD hS hl) (fun c1 => ?_)
  refine lv_iload_n hx hb dX11_image_4 rfl (lv_at hl 1 rfl) ?_
  refine lv_iconst (v := 2) hx hb dX11_image_5 (by decide) ?_
  refine lv_icmp_lt (tgt := 15) hx hb dX11_image_6 (by decide) (fun c2 => absurd c2 (xge2 q0 q1 c1)) (fun c2 => fin _ _ _ hP hD hS hl)
