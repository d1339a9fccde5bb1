/-! a text is copied -/
def kRG (l : Launch) (y : MethodName) (wd : List Cond) (rm : Room) (D : va_G) (K : Nat → ClassId) (av : List Value) (ws : va_W) {S : Type} (post : S → Prop) (w2 : S → va_W) (ad : S → Nat) (mc ms : Nat) : Prop := ∀ sz, Met l y wd rm (va_Pc av (fun U => kPc D (tysK K) ws sz U ∧ xE K (va_A ws sz) U U.heap)) (va_Qr post (fun u b t => b = ad u ∧ kB D (tysK K) w2 (va_A ws sz) u t) (va_A ws sz)) mc ms (va_A ws sz)
def kQr (D : va_G) (tys : List (ClassId × FieldType)) {S : Type} (post : S → Prop) (w2 : S → va_W) (ad : S → Nat) (A : Nat → Prop) (below : List Frame) (args : Array Value) (s : State) (mc ms : Nat) : State → Prop := MQ below (va_Qr post (fun u b t => b = ad u ∧ kB D tys w2 A u t) A) args s mc ms A
theorem kRG.of {l : Launch} {y : MethodName} {wd wd' : List Cond} {rm : Room} {D : va_G} {K : Nat → ClassId} {av : List Value} {ws : va_W} {S : Type} {w2 : S → va_W} {ad : S → Nat} {mc ms : Nat} {cc : ByteArray} {maxL : Nat} {ret : Option FieldType} {post : S → Prop} (hy : plainName y.cls = true) (hw : wd = Cond.code y cc maxL ret :: wd') (hlen : (lg_sl av).length ≤ maxL)
    (body : ∀ (p : Program) (e : Env) (s : State) (m : MethodId) (below : List Frame) (meth : Method) (c : Code) (A : Nat → Prop), p.tables.exec = Jvm.exec → c.code = cc → meth.sig.returnType = ret → c.maxLocals = maxL → s.vm.findClass y.cls = some m.cls → (∀ w ∈ wd, w.before av.toArray s = true) → meth.locks = false → meth.name = y.name → va_K D vwCl (tysK K) s → va_P D vwCl ws s.heap → va_D A ws → va_S A s.heap s.heap [] → (∀ q, s.heap.size ≤ q → A q) → xE K A s s.heap → ∀ ls : Array Slot, lv_has ls maxL (lv_args 0 av) → W p l e rm s m av.toArray below meth c s.heap [] 0 0 (kQr D (tysK K) post w2 ad A below av.toArray s mc ms) (F0 m 0 ls [])) :
    kRG l y wd rm D K av ws post w2 ad mc ms := by
  intro sz
  refine Met.ofW (cc := cc) (maxL := maxL) (ret := ret) hy hw ?_
  intro p e s m args below meth c s₁ B hml hv
  obtain ⟨rfl, ⟨hsz, hP, hK, hD0⟩, hE⟩ := hv
  subst hsz
  rw [lg_entry_eq]
  exact body p e s m below meth c (va_A ws s.heap.size) B.exec B.bytes B.returns hml (findClass_of_methodNamed B.named) (atoms_spec (ws := wd) B.pre) B.notSynchronized (name_of_methodNamed B.named B.method).1 hK hP hD0.self va_S.rf (fun q h => Or.inr h) hE _ (lv_entry av hlen)
section KRG
variable {p : Program} {l : Launch} {e : Env} {R : Room} {s : State} {m : MethodId} {args : Array Value} {below : List Frame} {meth : Method} {c : Code} {H : Heap} {locs : List Loc} {cells slots : Nat} {Q : State → Prop} {pc : Nat} {ls : Array Slot} {rest st0 : List Value} {cc : ByteArray}
variable {y : MethodName} {bytes : ByteArray} {maxL nL mc ms n index : Nat} {ret : Option FieldType} {wd : List Cond} {rm : Room} {Ts : List Cond} {own C : String} {b : Addr} {As : List Value} {D : va_G} {K : Nat → ClassId} {tys : List (ClassId × FieldType)} {ws : va_W} {S : Type} {w2 : S → va_W} {ad : S → Nat} {A : Nat → Prop}
theorem kR_ret {post : S → Prop} {nm : String} (hx : p.tables.exec = Jvm.exec) (hb : c.code = cc) (hr : meth.sig.returnType = some (.object nm)) (hlocks : meth.locks = false) (hK : va_K D vwCl tys s) (hS : va_S A s.heap H locs) (hdg : decode cc pc = .ok (.areturn, 1)) (u : S) {b : Nat} (hb2 : b = ad u) (hP : va_P D vwCl (w2 u) H) (hD : va_D A (w2 u)) (hpost : post u) : W p l e R s m args below meth c H locs cells slots (kQr D tys post w2 ad A below args s cells slots) (F0 m pc ls [.ref b]) :=
  W.aret hx hb hr (Or.inl ⟨_, rfl⟩) (Or.inr ⟨_, rfl⟩) (fun t ht hW => ⟨⟨u, b, rfl, hpost, hb2, by rw [ht]; exact hP, va_K.moved hW.alike hK, hD⟩, hS.F ht⟩) hS.2.2 hdg hlocks
theorem kRG.callW {post : S → Prop} (F : CallFix p m c cc nL s args Ts own) (hc : kRG l y wd rm D K (.ref b :: As) ws post w2 ad mc ms) (cw : CallW R s args own C index y bytes maxL ret wd rm mc ms n) (hV : xE K A s s.heap) (hK : va_K D vwCl (tysK K) s) (hP : va_P D vwCl ws H) (hD : va_D A ws) (hS : va_S A s.heap H locs) (hA : ∀ q, s.heap.size ≤ q → A q)
    (q0 ci : Nat) {T : u_T} {N : Nat} {fs : List Value} (hcl : vwCl[ci]? = some (C, T, N)) (he : ws[q0]? = some (b, .inr (ci, fs)))
    (hn : As.length = n) (hsize : ls.size = nL) (hstack : st0 = As.reverse ++ .ref b :: rest) (hW : (rest.map fun v => v.category).sum ≤ 8) (hdg : decode cc pc = .ok (.invokevirtual index, 3)) (hf : cells + mc ≤ R.cells ∧ slots + ms ≤ R.slots)
    (kk : ∀ (u : S) (H1 : Heap) (locs1 : List Loc), post u → va_P D vwCl (w2 u) H1 → va_D A (w2 u) → va_S A s.heap H1 locs1 → W p l e R s m args below meth c H1 locs1 (cells + mc) (slots + ms) Q (F0 m (pc + 3) ls (.ref (ad u) :: rest))) : W p l e R s m args below meth c H locs cells slots Q (F0 m pc ls st0) := by
  have hFc := kwFree hD hS hA
  refine va_callr (va_runV (As := As) (rest := rest) F (hc H.size) cw ⟨xblind, va_recv hK hP hcl he, fun U hU hW => ⟨rfl, xpre hV hK hP hD hS hA U hU hW⟩⟩ rfl hn hsize hstack (lv_room hW) hdg hf) hS (fun q _ h => hFc q h) hFc (fun u ra t H1 locs ht hvm hw hB hz1 hk1 hS => ?_)
  obtain ⟨hra, hP1, hK1, hD1⟩ := hB
  rw [ht] at hP1
  rw [hra]
  exact kk u H1 locs hw hP1 (hD1.weaken (fun k q _ h => hFc q.1 h)) hS
end KRG
theorem mx0 {n : Int32} {h : Int} (b : kb 0 n h) : (if (0 : Int32) < n then n else 0) = n := by
  by_cases q : (0 : Int32) < n
  · rw [if_pos q]
  · rw [if_neg q]
    have e0 : (0 : Int32).toInt = 0 := by decide +kernel
    rw [Int32.lt_iff_toInt_lt] at q
    have := b.1
    exact Int32.toInt_inj.mp (by omega)
theorem cpy_b {f g : Nat → Int32} {n : Nat} {l h : Int} (hf : ∀ j, kb l (f j) h) (hg : ∀ j, kb l (g j) h) (j : Nat) : kb l (va_cpy f g 0 0 n j) h := by
  unfold va_cpy
  split
  · exact hf _
  · exact hg _
set_option maxHeartbeats 4000000 in
set_option maxRecDepth 100000 in
theorem k_X10_initN (l : Launch) {D : va_G} {K : Nat → ClassId} (q : Nat) (n : Int32) (bn : kb 0 n 400) : kV l yX10_init (Cond.code yX10_init cX10_init 2 none :: kG) (rmD 2 4 461) D (tysK K) [.ref q, .int n] [(q, .inr (10, [.int 0, .null, .null, .null, .null, .int 0]))] (fun (_ : Nat → Nat) => True) (fun u => [(q, .inr (10, [.int 0, .ref (u 1), .ref (u 2), .ref (u 3), .ref (u 4), .int 0])), (u 1, .inl (K 0, 12, .inl (fun _ => 0))), (u 2, .inl (K 0, 12, .inl (fun _ => 0))), (u 3, .inl (K 0, 37, .inl (fun _ => 0))), (u 4, .inl (K 0, n.toNatClampNeg, .inl (fun _ => 0)))]) 4 461 := by
  refine kV.of (cc := cX10_init) (maxL := 2) (ret := none) (by decide) rfl (Nat.le_of_ble_eq_true rfl) ?_
  intro p e s m below meth c A hx hb hr hml hown hts hlocks hin hK hP hD hS hA ls hl
  have hg : ∀ w ∈ kG, w.before _ s = true := fun w h => hts w (List.mem_cons_of_mem _ h)
  have hown : s.vm.findClass RX10 = some m.cls := hown
  have hl : lv_has ls 2 [(0, .ref q), (1, .int n)] := hl
  refine lv_aload_n hx hb dX10_init_0 rfl (lv_at hl 0 rfl) ?_
  refine W.objInit hx hb hown (hg _ wt2_36) (hg _ wt1_28) (hg _ wt1_29) rfl (by rw [hml]; exact hl.1) rfl dX10_init_1 (Nat.le_of_ble_eq_true rfl) (Nat.le_of_ble_eq_true rfl) ?_
  refine W.eq (g2 := F0 m 4 ls []) rfl ?_
  refine lv_aload_n hx hb dX10_init_4 rfl (lv_at hl 0 rfl) ?_
  refine lv_iconst (v := 0) hx hb dX10_init_5 (by decide) ?_
  refine va_put (D := D) (ci := 10) (v := .int 0) (ty := .int) (C := RX10) (T := TX10) (N := 6) hx hb hg inC10 tyX10 tyX10_ok nmX10 hown hK hP hD hS 0 rfl rfl 0 (by decide) (hg _ wt2_40) (fun _ h9 => h9) rfl (by decide +kernel) rfl rfl (Nat.le_of_ble_eq_true rfl) dX10_init_6 (fun H locs hP hD hS => ?_)
  have hP : va_P D vwCl [(q, .inr (10, [.int 0, .null, .null, .null, .null, .int 0]))] H := hP
  have hD : va_D A [(q, .inr (10, [.int 0, .null, .null, .null, .null, .int 0]))] := hD
  refine lv_aload_n hx hb dX10_init_9 rfl (lv_at hl 0 rfl) ?_
  refine lv_bipush (v := 12) hx hb dX10_init_10 (by decide) ?_
  refine k_newa (atype := .int) (a0 := (12, .inl (fun _ => 0))) hx hb (hg _ wt1_77) rfl hK hP hD hS hA 0 rfl (fun _ => rfl) (by decide) (by decide +kernel) (by decide) (by decide) (by decide) dX10_init_12 (fun q0 H hP hD hS => ?_)
  have hP : va_P D vwCl [(q, .inr (10, [.int 0, .null, .null, .null, .null, .int 0])), (q0, .inl (K 0, 12, .inl (fun _ => 0)))] H := hP
  have hD : va_D A [(q, .inr (10, [.int 0, .null, .null, .null, .null, .int 0])), (q0, .inl (K 0, 12, .inl (fun _ => 0)))] := hD
  refine va_putF (D := D) (ci := 10) (v := .ref q0) (ty := (.array .int)) (C := RX10) (T := TX10) (N := 6) hx hb hg inC10 tyX10 tyX10_ok nmX10 hown hK hP hD hS 0 rfl rfl 1 (by decide) (hg _ wt2_43) (fun _ h9 => h9) rfl hin rfl (by decide +kernel) rfl rfl (Nat.le_of_ble_eq_true rfl) dX10_init_14 (fun H locs hP hD hS => ?_)
  have hP : va_P D vwCl [(q, .inr (10, [.int 0, .ref q0, .null, .null, .null, .int 0])), (q0, .inl (K 0, 12, .inl (fun _ => 0)))] H := hP
  have hD : va_D A [(q, .inr (10, [.int 0, .ref q0, .null, .null, .null, .int 0])), (q0, .inl (K 0, 12, .inl (fun _ => 0)))] := hD
  refine lv_aload_n hx hb dX10_init_17 rfl (lv_at hl 0 rfl) ?_
  refine lv_bipush (v := 12) hx hb dX10_init_18 (by decide) ?_
  refine k_newa (atype := .int) (a0 := (12, .inl (fun _ => 0))) hx hb (hg _ wt1_77) rfl hK hP hD hS hA 0 rfl (fun _ => rfl) (by decide) (by decide +kernel) (by decide) (by decide) (by decide) dX10_init_20 (fun q1 H hP hD hS => ?_)
  have hP : va_P D vwCl [(q, .inr (10, [.int 0, .ref q0, .null, .null, .null, .int 0])), (q0, .inl (K 0, 12, .inl (fun _ => 0))), (q1, .inl (K 0, 12, .inl (fun _ => 0)))] H := hP
  have hD : va_D A [(q, .inr (10, [.int 0, .ref q0, .null, .null, .null, .int 0])), (q0, .inl (K 0, 12, .inl (fun _ => 0))), (q1, .inl (K 0, 12, .inl (fun _ => 0)))] := hD
  refine va_putF (D := D) (ci := 10) (v := .ref q1) (ty := (.array .int)) (C := RX10) (T := TX10) (N := 6) hx hb hg inC10 tyX10 tyX10_ok nmX10 hown hK hP hD hS 0 rfl rfl 2 (by decide) (hg _ wt2_46) (fun _ h9 => h9) rfl hin rfl (by decide +kernel) rfl rfl (Nat.le_of_ble_eq_true rfl) dX10_init_22 (fun H locs hP hD hS => ?_)
  have hP : va_P D vwCl [(q, .inr (10, [.int 0, .ref q0, .ref q1, .null, .null, .int 0])), (q0, .inl (K 0, 12, .inl (fun _ => 0))), (q1, .inl (K 0, 12, .inl (fun _ => 0)))] H := hP
  have hD : va_D A [(q, .inr (10, [.int 0, .ref q0, .ref q1, .null, .null, .int 0])), (q0, .inl (K 0, 12, .inl (fun _ => 0))), (q1, .inl (K 0, 12, .inl (fun _ => 0)))] := hD
  refine lv_aload_n hx hb dX10_init_25 rfl (lv_at hl 0 rfl) ?_
  refine lv_bipush (v := 37) hx hb dX10_init_26 (by decide) ?_
  refine k_newa (atype := .int) (a0 := (37, .inl (fun _ => 0))) hx hb (hg _ wt1_77) rfl hK hP hD hS hA 0 rfl (fun _ => rfl) (by decide) (by decide +kernel) (by decide) (by decide) (by decide) dX10_init_28 (fun q2 H hP hD hS => ?_)
  have hP : va_P D vwCl [(q, .inr (10, [.int 0, .ref q0, .ref q1, .null, .null, .int 0])), (q0, .inl (K 0, 12, .inl (fun _ => 0))), (q1, .inl (K 0, 12, .inl (fun _ => 0))), (q2, .inl (K 0, 37, .inl (fun _ => 0)))] H := hP
  have hD : va_D A [(q, .inr (10, [.int 0, .ref q0, .ref q1, .null, .null, .int 0])), (q0, .inl (K 0, 12, .inl (fun _ => 0))), (q1, .inl (K 0, 12, .inl (fun _ => 0))), (q2, .inl (K 0, 37, .inl (fun _ => 0)))] := hD
  refine va_putF (D := D) (ci := 10) (v := .ref q2) (ty := (.array .int)) (C := RX10) (T := TX10) (N := 6) hx hb hg inC10 tyX10 tyX10_ok nmX10 hown hK hP hD hS 0 rfl rfl 3 (by decide) (hg _ wt2_48) (fun _ h9 => h9) rfl hin rfl (by decide +kernel) rfl rfl (Nat.le_of_ble_eq_true rfl) dX10_init_30 (fun H locs hP hD hS => ?_)
  have hP : va_P D vwCl [(q, .inr (10, [.int 0, .ref q0, .ref q1, .ref q2, .null, .int 0])), (q0, .inl (K 0, 12, .inl (fun _ => 0))), (q1, .inl (K 0, 12, .inl (fun _ => 0))), (q2, .inl (K 0, 37, .inl (fun _ => 0)))] H := hP
  have hD : va_D A [(q, .inr (10, [.int 0, .ref q0, .ref q1, .ref q2, .null, .int 0])), (q0, .inl (K 0, 12, .inl (fun _ => 0))), (q1, .inl (K 0, 12, .inl (fun _ => 0))), (q2, .inl (K 0, 37, .inl (fun _ => 0)))] := hD
  refine lv_aload_n hx hb dX10_init_33 rfl (lv_at hl 0 rfl) ?_
  refine lv_iconst (v := 0) hx hb dX10_init_34 (by decide) ?_
  refine va_put (D := D) (ci := 10) (v := .int 0) (ty := .int) (C := RX10) (T := TX10) (N := 6) hx hb hg inC10 tyX10 tyX10_ok nmX10 hown hK hP hD hS 0 rfl rfl 5 (by decide) (hg _ wt2_50) (fun _ h9 => h9) rfl (by decide +kernel) rfl rfl (Nat.le_of_ble_eq_true rfl) dX10_init_35 (fun H locs hP hD hS => ?_)
  have hP : va_P D vwCl [(q, .inr (10, [.int 0, .ref q0, .ref q1, .ref q2, .null, .int 0])), (q0, .inl (K 0, 12, .inl (fun _ => 0))), (q1, .inl (K 0, 12, .inl (fun _ => 0))), (q2, .inl (K 0, 37, .inl (fun _ => 0)))] H := hP
  have hD : va_D A [(q, .inr (10, [.int 0, .ref q0, .ref q1, .ref q2, .null, .int 0])), (q0, .inl (K 0, 12, .inl (fun _ => 0))), (q1, .inl (K 0, 12, .inl (fun _ => 0))), (q2, .inl (K 0, 37, .inl (fun _ => 0)))] := hD
  refine lv_aload_n hx hb dX10_init_38 rfl (lv_at hl 0 rfl) ?_
  refine lv_iconst (v := 0) hx hb dX10_init_39 (by decide) ?_
  refine lv_iload_n hx hb dX10_init_40 rfl (lv_at hl 1 rfl) ?_
  refine va_mmax hx hb (hml.trans hl.1.symm) hown (hg _ wt2_37) (hg _ wt2_38) (hg _ wt1_9) (hg _ wt2_39) (by decide) (Nat.le_of_ble_eq_true rfl) (by decide) (by decide) dX10_init_41 ?_
  refine k_top (z := n) (mx0 bn) ?_
  refine k_newa (atype := .int) (a0 := (n.toNatClampNeg, .inl (fun _ => 0))) hx hb (hg _ wt1_77) rfl hK hP hD hS hA 0 rfl (fun _ => rfl) (kb_nl bn (by decide)) rfl (by have w1 := kb_cl bn (by decide); have w2 := bn.2; show n.toNatClampNeg * 4 ≤ 536870912; omega) (by decide) (by have w1 := kb_cl bn (by decide); have w2 := bn.2; show 0 + 12 + 12 + 37 + n.toNatClampNeg ≤ 461; omega) dX10_init_44 (fun q3 H hP hD hS => ?_)
  have hP : va_P D vwCl [(q, .inr (10, [.int 0, .ref q0, .ref q1, .ref q2, .null, .int 0])), (q0, .inl (K 0, 12, .inl (fun _ => 0))), (q1, .inl (K 0, 12, .inl (fun _ => 0))), (q2, .inl (K 0, 37, .inl (fun _ => 0))), (q3, .inl (K 0, n.toNatClampNeg, .inl (fun _ => 0)))] H := hP
  have hD : va_D A [(q, .inr (10, [.int 0, .ref q0, .ref q1, .ref q2, .null, .int 0])), (q0, .inl (K 0, 12, .inl (fun _ => 0))), (q1, .inl (K 0, 12, .inl (fun _ => 0))), (q2, .inl (K 0, 37, .inl (fun _ => 0))), (q3, .inl (K 0, n.toNatClampNeg, .inl (fun _ => 0)))] := hD
  refine va_putF (D := D) (ci := 10) (v := .ref q3) (ty := (.array .int)) (C := RX10) (T := TX10) (N := 6) hx hb hg inC10 tyX10 tyX10_ok nmX10 hown hK hP hD hS 0 rfl rfl 4 (by decide) (hg _ wt2_49) (fun _ h9 => h9) rfl hin rfl (by decide +kernel) rfl rfl (Nat.le_of_ble_eq_true rfl) dX10_init_46 (fun H locs hP hD hS => ?_)
  have hP : va_P D vwCl [(q, .inr (10, [.int 0, .ref q0, .ref q1, .ref q2, .ref q3, .int 0])), (q0, .inl (K 0, 12, .inl (fun _ => 0))), (q1, .inl (K 0, 12, .inl (fun _ => 0))), (q2, .inl (K 0, 37, .inl (fun _ => 0))), (q3, .inl (K 0, n.toNatClampNeg, .inl (fun _ => 0)))] H := hP
  have hD : va_D A [(q, .inr (10, [.int 0, .ref q0, .ref q1, .ref q2, .ref q3, .int 0])), (q0, .inl (K 0, 12, .inl (fun _ => 0))), (q1, .inl (K 0, 12, .inl (fun _ => 0))), (q2, .inl (K 0, 37, .inl (fun _ => 0))), (q3, .inl (K 0, n.toNatClampNeg, .inl (fun _ => 0)))] := hD
  refine W.widen (k := 4) (n := 461) (by decide) (by have w1 := kb_cl bn (by decide); have w2 := bn.2; show 0 + 12 + 12 + 37 + n.toNatClampNeg ≤ 461; omega) ?_
  exact kV_ret hx hb hr hlocks hK hS dX10_init_49 (fun k => [q, q0, q1, q2, q3].getD k 0) hP hD trivial
