/-! a text is copied -/
def kRG (l : Launch) (y : MethodName) (wd : List Cond) (rm : Room) (D : va_G) (K : Nat → ClassId) (av : List Value) (ws : va_W) {S : Type} (post : S → Prop) (w2 : S → va_W) (ad : S → Nat) (mc ms : Nat) : Prop := ∀ sz, Met l y wd rm (va_Pc av (fun U => kPc D (tysK K) ws sz U ∧ xE K (va_A ws sz) U U.heap)) (va_Qr post (fun u b t => b = ad u ∧ kB D (tysK K) w2 (va_A ws sz) u t) (va_A ws sz)) mc ms (va_A ws sz)
def kQr (D : va_G) (tys : List (ClassId × FieldType)) {S : Type} (post : S → Prop) (w2 : S → va_W) (ad : S → Nat) (A : Nat → Prop) (below : List Frame) (args : Array Value) (s : State) (mc ms : Nat) : State → Prop := MQ below (va_Qr post (fun u b t => b = ad u ∧ kB D tys w2 A u t) A) args s mc ms A
theorem kRG.of {l : Launch} {y : MethodName} {wd wd' : List Cond} {rm : Room} {D : va_G} {K : Nat → ClassId} {av : List Value} {ws : va_W} {S : Type} {w2 : S → va_W} {ad : S → Nat} {mc ms : Nat} {cc : ByteArray} {maxL : Nat} {ret : Option FieldType} {post : S → Prop} (hy : plainName y.cls = true) (hw : wd = Cond.code y cc maxL ret :: wd') (hlen : (lg_sl av).length ≤ maxL)
    (body : ∀ (p : Program) (e : Env) (s : State) (m : MethodId) (below : List Frame) (meth : Method) (c : Code) (A : Nat → Prop), p.tables.exec = Jvm.exec → c.code = cc → meth.sig.returnType = ret → c.maxLocals = maxL → s.vm.findClass y.cls = some m.cls → (∀ w ∈ wd, w.before av.toArray s = true) → meth.locks = false → meth.name = y.name → va_K D vwCl (tysK K) s → va_P D vwCl ws s.heap → va_D A ws → va_S A s.heap s.heap [] → (∀ q, s.heap.size ≤ q → A q) → xE K A s s.heap → ∀ ls : Array Slot, lv_has ls maxL (lv_args 0 av) → W p l e rm s m av.toArray below meth c s.heap [] 0 0 (kQr D (tysK K) post w2 ad A below av.toArray s mc ms) (F0 m 0 ls [])) :
    kRG l y wd rm D K av ws post w2 ad mc ms := by
  intro sz
  refine Met.ofW (cc := cc) (maxL := maxL) (ret := ret) hy hw ?_
  intro p e s m args below meth c s₁ B hml hv
  obtain ⟨rfl, ⟨hsz, hP, hK, hD0⟩, hE⟩ := hv
  subst hsz
  rw [lg_entry_eq]
  exact body p e s m below meth c (va_A ws s.heap.size) B.exec B.bytes B.returns hml (findClass_of_methodNamed B.named) (atoms_spec (ws := wd) B.pre) B.notSynchronized (name_of_methodNamed B.named B.method).1 hK hP hD0.self va_S.rf (fun q h => Or.inr h) hE _ (lv_entry av hlen)
section KRG
variable {p : Program} {l : Launch} {e : Env} {R : Room} {s : State} {m : MethodId} {args : Array Value} {below : List Frame} {meth : Method} {c : Code} {H : Heap} {locs : List Loc} {cells slots : Nat} {Q : State → Prop} {pc : Nat} {ls : Array Slot} {rest st0 : List Value} {cc : ByteArray}
variable {y : MethodName} {bytes : ByteArray} {maxL nL mc ms n index : Nat} {ret : Option FieldType} {wd : List Cond} {rm : Room} {Ts : List Cond} {own C : String} {b : Addr} {As : List Value} {D : va_G} {K : Nat → ClassId} {tys : List (ClassId × FieldType)} {ws : va_W} {S : Type} {w2 : S → va_W} {ad : S → Nat} {A : Nat → Prop}
theorem kR_ret {post : S → Prop} {nm : String} (hx : p.tables.exec = Jvm.exec) (hb : c.code = cc) (hr : meth.sig.returnType = some (.object nm)) (hlocks : meth.locks = false) (hK : va_K D vwCl tys s) (hS : va_S A s.heap H locs) (hdg : decode cc pc = .ok (.areturn, 1)) (u : S) {b : Nat} (hb2 : b = ad u) (hP : va_P D vwCl (w2 u) H) (hD : va_D A (w2 u)) (hpost : post u) : W p l e R s m args below meth c H locs cells slots (kQr D tys post w2 ad A below args s cells slots) (F0 m pc ls [.ref b]) :=
  W.aret hx hb hr (Or.inl ⟨_, rfl⟩) (Or.inr ⟨_, rfl⟩) (fun t ht hW => ⟨⟨u, b, rfl, hpost, hb2, by rw [ht]; exact hP, va_K.moved hW.alike hK, hD⟩, hS.F ht⟩) hS.2.2 hdg hlocks
theorem kRG.callW {post : S → Prop} (F : CallFix p m c cc nL s args Ts own) (hc : kRG l y wd rm D K (.ref b :: As) ws post w2 ad mc ms) (cw : CallW R s args own C index y bytes maxL ret wd rm mc ms n) (hV : xE K A s s.heap) (hK : va_K D vwCl (tysK K) s) (hP : va_P D vwCl ws H) (hD : va_D A ws) (hS : va_S A s.heap H locs) (hA : ∀ q, s.heap.size ≤ q → A q)
    (q0 ci : Nat) {T : u_T} {N : Nat} {fs : List Value} (hcl : vwCl[ci]? = some (C, T, N)) (he : ws[q0]? = some (b, .inr (ci, fs)))
    (hn : As.length = n) (hsize : ls.size = nL) (hstack : st0 = As.reverse ++ .ref b :: rest) (hW : (rest.map fun v => v.category).sum ≤ 8) (hdg : decode cc pc = .ok (.invokevirtual index, 3)) (hf : cells + mc ≤ R.cells ∧ slots + ms ≤ R.slots)
    (kk : ∀ (u : S) (H1 : Heap) (locs1 : List Loc), post u → va_P D vwCl (w2 u) H1 → va_D A (w2 u) → va_S A s.heap H1 locs1 → W p l e R s m args below meth c H1 locs1 (cells + mc) (slots + ms) Q (F0 m (pc + 3) ls (.ref (ad u) :: rest))) : W p l e R s m args below meth c H locs cells slots Q (F0 m pc ls st0) := by
  have hFc := kwFree hD hS hA
  refine va_callr (va_runV (As := As) (rest := rest) F (hc H.size) cw ⟨xblind, va_recv hK hP hcl he, fun U hU hW => ⟨rfl, xpre hV hK hP hD hS hA U hU hW⟩⟩ rfl hn hsize hstack (lv_room hW) hdg hf) hS (fun q _ h => hFc q h) hFc (fun u ra t H1 locs ht hvm hw hB hz1 hk1 hS => ?_)
  obtain ⟨hra, hP1, hK1, hD1⟩ := hB
  rw [ht] at hP1
  rw [hra]
  exact kk u H1 locs hw hP1 (hD1.weaken (fun k q _ h => hFc q.1 h)) hS
end KRG
theorem mx0 {n : Int32} {h : Int} (b : kb 0 n h) : (if (0 : Int32) < n then n else 0) = n := by
  by_cases q : (0 : Int32) < n
  · rw [if_pos q]
  · rw [if_neg q]
    have e0 : (0 : Int32).toInt = 0 := by decide +kernel
    rw [Int32.lt_iff_toInt_lt] at q
    have := b.1
    exact Int32.toInt_inj.mp (by omega)
theorem cpy_b {f g : Nat → Int32} {n : Nat} {l h : Int} (hf : ∀ j, kb l (f j) h) (hg : ∀ j, kb l (g j) h) (j : Nat) : kb l (va_cpy f g 0 0 n j) h := by
  unfold va_cpy
  split
  · exact hf _
  · exact hg _
theorem dX10_copy_0 : decode cX10_copy 0 = .ok (.new 10, 3) := by decide +kernel
theorem dX10_copy_3 : decode cX10_copy 3 = .ok (.dup, 1) := by decide +kernel
theorem dX10_copy_4 : decode cX10_copy 4 = .ok (.aload_n 0, 1) := by decide +kernel
theorem dX10_copy_5 : decode cX10_copy 5 = .ok (.getfield 25, 3) := by decide +kernel
theorem dX10_copy_8 : decode cX10_copy 8 = .ok (.invokespecial 37, 3) := by decide +kernel
theorem dX10_copy_11 : decode cX10_copy 11 = .ok (.astore_n 1, 1) := by decide +kernel
theorem dX10_copy_12 : decode cX10_copy 12 = .ok (.aload_n 1, 1) := by decide +kernel
theorem dX10_copy_13 : decode cX10_copy 13 = .ok (.aload_n 0, 1) := by decide +kernel
theorem dX10_copy_14 : decode cX10_copy 14 = .ok (.getfield 9, 3) := by decide +kernel
theorem dX10_copy_17 : decode cX10_copy 17 = .ok (.putfield 9, 3) := by decide +kernel
theorem dX10_copy_20 : decode cX10_copy 20 = .ok (.aload_n 0, 1) := by decide +kernel
theorem dX10_copy_21 : decode cX10_copy 21 = .ok (.getfield 15, 3) := by decide +kernel
theorem dX10_copy_24 : decode cX10_copy 24 = .ok (.iconst 0, 1) := by decide +kernel
theorem dX10_copy_25 : decode cX10_copy 25 = .ok (.aload_n 1, 1) := by decide +kernel
theorem dX10_copy_26 : decode cX10_copy 26 = .ok (.getfield 15, 3) := by decide +kernel
theorem dX10_copy_29 : decode cX10_copy 29 = .ok (.iconst 0, 1) := by decide +kernel
theorem dX10_copy_30 : decode cX10_copy 30 = .ok (.bipush 12, 2) := by decide +kernel
theorem dX10_copy_32 : decode cX10_copy 32 = .ok (.invokestatic 40, 3) := by decide +kernel
theorem dX10_copy_35 : decode cX10_copy 35 = .ok (.aload_n 0, 1) := by decide +kernel
theorem dX10_copy_36 : decode cX10_copy 36 = .ok (.getfield 19, 3) := by decide +kernel
theorem dX10_copy_39 : decode cX10_copy 39 = .ok (.iconst 0, 1) := by decide +kernel
theorem dX10_copy_40 : decode cX10_copy 40 = .ok (.aload_n 1, 1) := by decide +kernel
theorem dX10_copy_41 : decode cX10_copy 41 = .ok (.getfield 19, 3) := by decide +kernel
theorem dX10_copy_44 : decode cX10_copy 44 = .ok (.iconst 0, 1) := by decide +kernel
theorem dX10_copy_45 : decode cX10_copy 45 = .ok (.bipush 12, 2) := by decide +kernel
theorem dX10_copy_47 : decode cX10_copy 47 = .ok (.invokestatic 40, 3) := by decide +kernel
theorem dX10_copy_50 : decode cX10_copy 50 = .ok (.aload_n 0, 1) := by decide +kernel
theorem dX10_copy_51 : decode cX10_copy 51 = .ok (.getfield 22, 3) := by decide +kernel
theorem dX10_copy_54 : decode cX10_copy 54 = .ok (.iconst 0, 1) := by decide +kernel
theorem dX10_copy_55 : decode cX10_copy 55 = .ok (.aload_n 1, 1) := by decide +kernel
theorem dX10_copy_56 : decode cX10_copy 56 = .ok (.getfield 22, 3) := by decide +kernel
theorem dX10_copy_59 : decode cX10_copy 59 = .ok (.iconst 0, 1) := by decide +kernel
theorem dX10_copy_60 : decode cX10_copy 60 = .ok (.aload_n 0, 1) := by decide +kernel
theorem dX10_copy_61 : decode cX10_copy 61 = .ok (.getfield 22, 3) := by decide +kernel
theorem dX10_copy_64 : decode cX10_copy 64 = .ok (.arraylength, 1) := by decide +kernel
theorem dX10_copy_65 : decode cX10_copy 65 = .ok (.invokestatic 40, 3) := by decide +kernel
theorem dX10_copy_68 : decode cX10_copy 68 = .ok (.aload_n 1, 1) := by decide +kernel
theorem dX10_copy_69 : decode cX10_copy 69 = .ok (.aload_n 1, 1) := by decide +kernel
theorem dX10_copy_70 : decode cX10_copy 70 = .ok (.getfield 34, 3) := by decide +kernel
theorem dX10_copy_73 : decode cX10_copy 73 = .ok (.arraylength, 1) := by decide +kernel
theorem dX10_copy_74 : decode cX10_copy 74 = .ok (.putfield 25, 3) := by decide +kernel
theorem dX10_copy_77 : decode cX10_copy 77 = .ok (.aload_n 0, 1) := by decide +kernel
theorem dX10_copy_78 : decode cX10_copy 78 = .ok (.getfield 34, 3) := by decide +kernel
theorem dX10_copy_81 : decode cX10_copy 81 = .ok (.iconst 0, 1) := by decide +kernel
theorem dX10_copy_82 : decode cX10_copy 82 = .ok (.aload_n 1, 1) := by decide +kernel
theorem dX10_copy_83 : decode cX10_copy 83 = .ok (.getfield 34, 3) := by decide +kernel
theorem dX10_copy_86 : decode cX10_copy 86 = .ok (.iconst 0, 1) := by decide +kernel
theorem dX10_copy_87 : decode cX10_copy 87 = .ok (.aload_n 1, 1) := by decide +kernel
theorem dX10_copy_88 : decode cX10_copy 88 = .ok (.getfield 25, 3) := by decide +kernel
theorem dX10_copy_91 : decode cX10_copy 91 = .ok (.invokestatic 40, 3) := by decide +kernel
theorem dX10_copy_94 : decode cX10_copy 94 = .ok (.aload_n 1, 1) := by decide +kernel
theorem dX10_copy_95 : decode cX10_copy 95 = .ok (.areturn, 1) := by decide +kernel
theorem wt4_66 : Cond.classLink RX10 10 RX10 ∈ kG := kt4 66 rfl rfl
theorem wt4_67 : Cond.methodLink RX10 37 yX10_init ∈ kG := kt4 67 rfl rfl
theorem wt4_68 : Cond.methodLink RX10 40 arraycopyName ∈ kG := kt4 68 rfl rfl
set_option maxHeartbeats 4000000 in
set_option maxRecDepth 100000 in
theorem k_X10_initN (l : Launch) {D : va_G} {K : Nat → ClassId} (q : Nat) (n : Int32) (bn : kb 0 n 400) : kV l yX10_init (Cond.code yX10_init cX10_init 2 none :: kG) (rmD 2 4 461) D (tysK K) [.ref q, .int n] [(q, .inr (10, [.int 0, .null, .null, .null, .null, .int 0]))] (fun (_ : Nat → Nat) => True) (fun u => [(q, .inr (10, [.int 0, .ref (u 1), .ref (u 2), .ref (u 3), .ref (u 4), .int 0])), (u 1, .inl (K 0, 12, .inl (fun _ => 0))), (u 2, .inl (K 0, 12, .inl (fun _ => 0))), (u 3, .inl (K 0, 37, .inl (fun _ => 0))), (u 4, .inl (K 0, n.toNatClampNeg, .inl (fun _ => 0)))]) 4 461 := by
  refine kV.of (cc := cX10_init) (maxL := 2) (ret := none) (by decide) rfl (Nat.le_of_ble_eq_true rfl) ?_
  intro p e s m below meth c A hx hb hr hml hown hts hlocks hin hK hP hD hS hA ls hl
  have hg : ∀ w ∈ kG, w.before _ s = true := fun w h => hts w (List.mem_cons_of_mem _ h)
  have hown : s.vm.findClass RX10 = some m.cls := hown
  have hl : lv_has ls 2 [(0, .ref q), (1, .int n)] := hl
  refine lv_aload_n hx hb dX10_init_0 rfl (lv_at hl 0 rfl) ?_
  refine W.objInit hx hb hown (hg _ wt2_36) (hg _ wt1_28) (hg _ wt1_29) rfl (by rw [hml]; exact hl.1) rfl dX10_init_1 (Nat.le_of_ble_eq_true rfl) (Nat.le_of_ble_eq_true rfl) ?_
  refine W.eq (g2 := F0 m 4 ls []) rfl ?_
  refine lv_aload_n hx hb dX10_init_4 rfl (lv_at hl 0 rfl) ?_
  refine lv_iconst (v := 0) hx hb dX10_init_5 (by decide) ?_
  refine va_put (D := D) (ci := 10) (v := .int 0) (ty := .int) (C := RX10) (T := TX10) (N := 6) hx hb hg inC10 tyX10 tyX10_ok nmX10 hown hK hP hD hS 0 rfl rfl 0 (by decide) (hg _ wt2_40) (fun _ h9 => h9) rfl (by decide +kernel) rfl rfl (Nat.le_of_ble_eq_true rfl) dX10_init_6 (fun H locs hP hD hS => ?_)
  have hP : va_P D vwCl [(q, .inr (10, [.int 0, .null, .null, .null, .null, .int 0]))] H := hP
  have hD : va_D A [(q, .inr (10, [.int 0, .null, .null, .null, .null, .int 0]))] := hD
  refine lv_aload_n hx hb dX10_init_9 rfl (lv_at hl 0 rfl) ?_
  refine lv_bipush (v := 12) hx hb dX10_init_10 (by decide) ?_
  refine k_newa (atype := .int) (a0 := (12, .inl (fun _ => 0))) hx hb (hg _ wt1_77) rfl hK hP hD hS hA 0 rfl (fun _ => rfl) (by decide) (by decide +kernel) (by decide) (by decide) (by decide) dX10_init_12 (fun q0 H hP hD hS => ?_)
  have hP : va_P D vwCl [(q, .inr (10, [.int 0, .null, .null, .null, .null, .int 0])), (q0, .inl (K 0, 12, .inl (fun _ => 0)))] H := hP
  have hD : va_D A [(q, .inr (10, [.int 0, .null, .null, .null, .null, .int 0])), (q0, .inl (K 0, 12, .inl (fun _ => 0)))] := hD
  refine va_putF (D := D) (ci := 10) (v := .ref q0) (ty := (.array .int)) (C := RX10) (T := TX10) (N := 6) hx hb hg inC10 tyX10 tyX10_ok nmX10 hown hK hP hD hS 0 rfl rfl 1 (by decide) (hg _ wt2_43) (fun _ h9 => h9) rfl hin rfl (by decide +kernel) rfl rfl (Nat.le_of_ble_eq_true rfl) dX10_init_14 (fun H locs hP hD hS => ?_)
  have hP : va_P D vwCl [(q, .inr (10, [.int 0, .ref q0, .null, .null, .null, .int 0])), (q0, .inl (K 0, 12, .inl (fun _ => 0)))] H := hP
  have hD : va_D A [(q, .inr (10, [.int 0, .ref q0, .null, .null, .null, .int 0])), (q0, .inl (K 0, 12, .inl (fun _ => 0)))] := hD
  refine lv_aload_n hx hb dX10_init_17 rfl (lv_at hl 0 rfl) ?_
  refine lv_bipush (v := 12) hx hb dX10_init_18 (by decide) ?_
  refine k_newa (atype := .int) (a0 := (12, .inl (fun _ => 0))) hx hb (hg _ wt1_77) rfl hK hP hD hS hA 0 rfl (fun _ => rfl) (by decide) (by decide +kernel) (by decide) (by decide) (by decide) dX10_init_20 (fun q1 H hP hD hS => ?_)
  have hP : va_P D vwCl [(q, .inr (10, [.int 0, .ref q0, .null, .null, .null, .int 0])), (q0, .inl (K 0, 12, .inl (fun _ => 0))), (q1, .inl (K 0, 12, .inl (fun _ => 0)))] H := hP
  have hD : va_D A [(q, .inr (10, [.int 0, .ref q0, .null, .null, .null, .int 0])), (q0, .inl (K 0, 12, .inl (fun _ => 0))), (q1, .inl (K 0, 12, .inl (fun _ => 0)))] := hD
  refine va_putF (D := D) (ci := 10) (v := .ref q1) (ty := (.array .int)) (C := RX10) (T := TX10) (N := 6) hx hb hg inC10 tyX10 tyX10_ok nmX10 hown hK hP hD hS 0 rfl rfl 2 (by decide) (hg _ wt2_46) (fun _ h9 => h9) rfl hin rfl (by decide +kernel) rfl rfl (Nat.le_of_ble_eq_true rfl) dX10_init_22 (fun H locs hP hD hS => ?_)
  have hP : va_P D vwCl [(q, .inr (10, [.int 0, .ref q0, .ref q1, .null, .null, .int 0])), (q0, .inl (K 0, 12, .inl (fun _ => 0))), (q1, .inl (K 0, 12, .inl (fun _ => 0)))] H := hP
  have hD : va_D A [(q, .inr (10, [.int 0, .ref q0, .ref q1, .null, .null, .int 0])), (q0, .inl (K 0, 12, .inl (fun _ => 0))), (q1, .inl (K 0, 12, .inl (fun _ => 0)))] := hD
  refine lv_aload_n hx hb dX10_init_25 rfl (lv_at hl 0 rfl) ?_
  refine lv_bipush (v := 37) hx hb dX10_init_26 (by decide) ?_
  refine k_newa (atype := .int) (a0 := (37, .inl (fun _ => 0))) hx hb (hg _ wt1_77) rfl hK hP hD hS hA 0 rfl (fun _ => rfl) (by decide) (by decide +kernel) (by decide) (by decide) (by decide) dX10_init_28 (fun q2 H hP hD hS => ?_)
  have hP : va_P D vwCl [(q, .inr (10, [.int 0, .ref q0, .ref q1, .null, .null, .int 0])), (q0, .inl (K 0, 12, .inl (fun _ => 0))), (q1, .inl (K 0, 12, .inl (fun _ => 0))), (q2, .inl (K 0, 37, .inl (fun _ => 0)))] H := hP
  have hD : va_D A [(q, .inr (10, [.int 0, .ref q0, .ref q1, .null, .null, .int 0])), (q0, .inl (K 0, 12, .inl (fun _ => 0))), (q1, .inl (K 0, 12, .inl (fun _ => 0))), (q2, .inl (K 0, 37, .inl (fun _ => 0)))] := hD
  refine va_putF (D := D) (ci := 10) (v := .ref q2) (ty := (.array .int)) (C := RX10) (T := TX10) (N := 6) hx hb hg inC10 tyX10 tyX10_ok nmX10 hown hK hP hD hS 0 rfl rfl 3 (by decide) (hg _ wt2_48) (fun _ h9 => h9) rfl hin rfl (by decide +kernel) rfl rfl (Nat.le_of_ble_eq_true rfl) dX10_init_30 (fun H locs hP hD hS => ?_)
  have hP : va_P D vwCl [(q, .inr (10, [.int 0, .ref q0, .ref q1, .ref q2, .null, .int 0])), (q0, .inl (K 0, 12, .inl (fun _ => 0))), (q1, .inl (K 0, 12, .inl (fun _ => 0))), (q2, .inl (K 0, 37, .inl (fun _ => 0)))] H := hP
  have hD : va_D A [(q, .inr (10, [.int 0, .ref q0, .ref q1, .ref q2, .null, .int 0])), (q0, .inl (K 0, 12, .inl (fun _ => 0))), (q1, .inl (K 0, 12, .inl (fun _ => 0))), (q2, .inl (K 0, 37, .inl (fun _ => 0)))] := hD
  refine lv_aload_n hx hb dX10_init_33 rfl (lv_at hl 0 rfl) ?_
  refine lv_iconst (v := 0) hx hb dX10_init_34 (by decide) ?_
  refine va_put (D := D) (ci := 10) (v := .int 0) (ty := .int) (C := RX10) (T := TX10) (N := 6) hx hb hg inC10 tyX10 tyX10_ok nmX10 hown hK hP hD hS 0 rfl rfl 5 (by decide) (hg _ wt2_50) (fun _ h9 => h9) rfl (by decide +kernel) rfl rfl (Nat.le_of_ble_eq_true rfl) dX10_init_35 (fun H locs hP hD hS => ?_)
  have hP : va_P D vwCl [(q, .inr (10, [.int 0, .ref q0, .ref q1, .ref q2, .null, .int 0])), (q0, .inl (K 0, 12, .inl (fun _ => 0))), (q1, .inl (K 0, 12, .inl (fun _ => 0))), (q2, .inl (K 0, 37, .inl (fun _ => 0)))] H := hP
  have hD : va_D A [(q, .inr (10, [.int 0, .ref q0, .ref q1, .ref q2, .null, .int 0])), (q0, .inl (K 0, 12, .inl (fun _ => 0))), (q1, .inl (K 0, 12, .inl (fun _ => 0))), (q2, .inl (K 0, 37, .inl (fun _ => 0)))] := hD
  refine lv_aload_n hx hb dX10_init_38 rfl (lv_at hl 0 rfl) ?_
  refine lv_iconst (v := 0) hx hb dX10_init_39 (by decide) ?_
  refine lv_iload_n hx hb dX10_init_40 rfl (lv_at hl 1 rfl) ?_
  refine va_mmax hx hb (hml.trans hl.1.symm) hown (hg _ wt2_37) (hg _ wt2_38) (hg _ wt1_9) (hg _ wt2_39) (by decide) (Nat.le_of_ble_eq_true rfl) (by decide) (by decide) dX10_init_41 ?_
  refine k_top (z := n) (mx0 bn) ?_
  refine k_newa (atype := .int) (a0 := (n.toNatClampNeg, .inl (fun _ => 0))) hx hb (hg _ wt1_77) rfl hK hP hD hS hA 0 rfl (fun _ => rfl) (kb_nl bn (by decide)) rfl (by have w1 := kb_cl bn (by decide); have w2 := bn.2; show n.toNatClampNeg * 4 ≤ 536870912; omega) (by decide) (by have w1 := kb_cl bn (by decide); have w2 := bn.2; show 0 + 12 + 12 + 37 + n.toNatClampNeg ≤ 461; omega) dX10_init_44 (fun q3 H hP hD hS => ?_)
  have hP : va_P D vwCl [(q, .inr (10, [.int 0, .ref q0, .ref q1, .ref q2, .null, .int 0])), (q0, .inl (K 0, 12, .inl (fun _ => 0))), (q1, .inl (K 0, 12, .inl (fun _ => 0))), (q2, .inl (K 0, 37, .inl (fun _ => 0))), (q3, .inl (K 0, n.toNatClampNeg, .inl (fun _ => 0)))] H := hP
  have hD : va_D A [(q, .inr (10, [.int 0, .ref q0, .ref q1, .ref q2, .null, .int 0])), (q0, .inl (K 0, 12, .inl (fun _ => 0))), (q1, .inl (K 0, 12, .inl (fun _ => 0))), (q2, .inl (K 0, 37, .inl (fun _ => 0))), (q3, .inl (K 0, n.toNatClampNeg, .inl (fun _ => 0)))] := hD
  refine va_putF (D := D) (ci := 10) (v := .ref q3) (ty := (.array .int)) (C := RX10) (T := TX10) (N := 6) hx hb hg inC10 tyX10 tyX10_ok nmX10 hown hK hP hD hS 0 rfl rfl 4 (by decide) (hg _ wt2_49) (fun _ h9 => h9) rfl hin rfl (by decide +kernel) rfl rfl (Nat.le_of_ble_eq_true rfl) dX10_init_46 (fun H locs hP hD hS => ?_)
  have hP : va_P D vwCl [(q, .inr (10, [.int 0, .ref q0, .ref q1, .ref q2, .ref q3, .int 0])), (q0, .inl (K 0, 12, .inl (fun _ => 0))), (q1, .inl (K 0, 12, .inl (fun _ => 0))), (q2, .inl (K 0, 37, .inl (fun _ => 0))), (q3, .inl (K 0, n.toNatClampNeg, .inl (fun _ => 0)))] H := hP
  have hD : va_D A [(q, .inr (10, [.int 0, .ref q0, .ref q1, .ref q2, .ref q3, .int 0])), (q0, .inl (K 0, 12, .inl (fun _ => 0))), (q1, .inl (K 0, 12, .inl (fun _ => 0))), (q2, .inl (K 0, 37, .inl (fun _ => 0))), (q3, .inl (K 0, n.toNatClampNeg, .inl (fun _ => 0)))] := hD
  refine W.widen (k := 4) (n := 461) (by decide) (by have w1 := kb_cl bn (by decide); have w2 := bn.2; show 0 + 12 + 12 + 37 + n.toNatClampNeg ≤ 461; omega) ?_
  exact kV_ret hx hb hr hlocks hK hS dX10_init_49 (fun k => [q, q0, q1, q2, q3].getD k 0) hP hD trivial
set_option maxHeartbeats 4000000 in
set_option maxRecDepth 100000 in
theorem x_10_copy (l : Launch) {D : va_G} {K : Nat → ClassId} (r : Nat → Nat) (f : Nat → Int32) (a : Nat → Nat → Int32) (g : xG) (tx : va_W) (hI : xI f a) : kRG l yX10_copy (Cond.code yX10_copy cX10_copy 2 (some (.object "SunriseRoof$Text")) :: kG) (rmD 3 5 467) D K [.ref (r 51)] (xX K r f a g tx) (fun t : tX => t.2.2.2 ≤ 400 ∧ kb 0 (t.2.1 0) 12 ∧ ∀ j, kb 0 (t.2.2.1 4 j) 65535) (fun t => tW K t ++ xX K r f a g tx) (fun t => t.1 0) 5 467 := by
  refine kRG.of (cc := cX10_copy) (maxL := 2) (ret := (some (.object "SunriseRoof$Text"))) (by decide) rfl (Nat.le_of_ble_eq_true rfl) ?_
  intro p e s m below meth c A hx hb hr hml hown hts hlocks hnm hK hP hD hS hA hV ls hl
  have hg : ∀ w ∈ kG, w.before _ s = true := fun w h => hts w (List.mem_cons_of_mem _ h)
  have hown : s.vm.findClass RX10 = some m.cls := hown
  have hl : lv_has ls 2 [(0, .ref (r 51))] := hl
  have bsz : kb 0 (f 1637) 400 := fI_at hI.1 1637 (by decide) (by decide)
  have bcl : kb 0 (f 1632) 12 := fI_at hI.1 1632 (by decide) (by decide)
  obtain ⟨n, en⟩ : ∃ z : Int32, z = f 1637 := ⟨_, rfl⟩
  have bn : kb 0 n 400 := kb_eq en bsz
  obtain ⟨N, hN⟩ : ∃ N : Nat, N = n.toNatClampNeg := ⟨_, rfl⟩
  have hN4 : N ≤ 400 := by have w1 := kb_cl bn (by decide); have w2 := bn.2; omega
  refine va_new (ci := 10) (fs := [.int 0, .null, .null, .null, .null, .int 0]) (C := RX10) (T := TX10) (N := 6) hx hb hg inC10 tyX10 tyX10_ok hown (hg _ wt4_66) (hg _ wt2_32) (hg _ wt1_8) hK hP hD hS hA rfl (fun j hj => by rcases (show j = 0 ∨ j = 1 ∨ j = 2 ∨ j = 3 ∨ j = 4 ∨ j = 5 by omega) with rfl | rfl | rfl | rfl | rfl | rfl <;> rfl) (by decide) (by decide) dX10_copy_0 (fun q H hP hD hS => ?_)
  refine lv_dup hx hb dX10_copy_3 rfl ?_
  refine lv_aload_n hx hb dX10_copy_4 rfl (lv_at hl 0 rfl) ?_
  refine va_get (D := D) (ci := 10) (v := .int (f 1637)) (C := RX10) (T := TX10) (N := 6) hx hb hg inC10 hown hK hP 51 rfl rfl 5 (by decide) (hg _ wt2_50) (fun _ h9 => h9) rfl dX10_copy_5 ?_
  refine k_top (z := n) en.symm ?_
  refine kV.callI (ws := xX K r f a g tx) (As := [.int n]) (rest := [.ref q]) ⟨hx, hb, hml, hown, hg⟩ (k_X10_initN l q n bn) (cwI 1 hg (kgC wt2_35) rfl rfl rfl (hg _ wt1_8) (hg _ wt4_67) (hg _ wt2_34) rfl (by decide +kernel) ⟨by decide, by decide⟩) hK hP hD hS hA rfl hl.1 rfl (Nat.le_of_ble_eq_true rfl) dX10_copy_8 ⟨by decide, by decide⟩ (fun u H locs _ hP hD hS => ?_)
  rw [← hN] at hP hD
  have hP : va_P D vwCl ([(q, .inr (10, [.int 0, .ref (u 1), .ref (u 2), .ref (u 3), .ref (u 4), .int 0])), (u 1, .inl (K 0, 12, .inl (fun _ => 0))), (u 2, .inl (K 0, 12, .inl (fun _ => 0))), (u 3, .inl (K 0, 37, .inl (fun _ => 0))), (u 4, .inl (K 0, N, .inl (fun _ => 0)))] ++ xX K r f a g tx) H := va_P_pm List.perm_append_comm hP
  have hD : va_D A ([(q, .inr (10, [.int 0, .ref (u 1), .ref (u 2), .ref (u 3), .ref (u 4), .int 0])), (u 1, .inl (K 0, 12, .inl (fun _ => 0))), (u 2, .inl (K 0, 12, .inl (fun _ => 0))), (u 3, .inl (K 0, 37, .inl (fun _ => 0))), (u 4, .inl (K 0, N, .inl (fun _ => 0)))] ++ xX K r f a g tx) := va_D_pm List.perm_append_comm hD
  refine lv_astore_n (lv' := [(1, .ref q), (0, .ref (r 51))]) hx hb dX10_copy_11 rfl hl (by decide) rfl (fun ls hl => ?_)
  refine lv_aload_n hx hb dX10_copy_12 rfl (lv_at hl 0 rfl) ?_
  refine lv_aload_n hx hb dX10_copy_13 rfl (lv_at hl 1 rfl) ?_
  refine va_get (D := D) (ci := 10) (v := .int (f 1632)) (C := RX10) (T := TX10) (N := 6) hx hb hg inC10 hown hK hP 56 rfl rfl 0 (by decide) (hg _ wt2_40) (fun _ h9 => h9) rfl dX10_copy_14 ?_
  refine va_put (D := D) (ci := 10) (v := .int (f 1632)) (ty := .int) (C := RX10) (T := TX10) (N := 6) hx hb hg inC10 tyX10 tyX10_ok nmX10 hown hK hP hD hS 0 rfl rfl 0 (by decide) (hg _ wt2_40) (fun _ h9 => h9) rfl (by decide +kernel) rfl rfl (Nat.le_of_ble_eq_true rfl) dX10_copy_17 (fun H locs hP hD hS => ?_)
  have hP : va_P D vwCl ([(q, .inr (10, [.int (f 1632), .ref (u 1), .ref (u 2), .ref (u 3), .ref (u 4), .int 0])), (u 1, .inl (K 0, 12, .inl (fun _ => 0))), (u 2, .inl (K 0, 12, .inl (fun _ => 0))), (u 3, .inl (K 0, 37, .inl (fun _ => 0))), (u 4, .inl (K 0, N, .inl (fun _ => 0)))] ++ xX K r f a g tx) H := hP
  have hD : va_D A ([(q, .inr (10, [.int (f 1632), .ref (u 1), .ref (u 2), .ref (u 3), .ref (u 4), .int 0])), (u 1, .inl (K 0, 12, .inl (fun _ => 0))), (u 2, .inl (K 0, 12, .inl (fun _ => 0))), (u 3, .inl (K 0, 37, .inl (fun _ => 0))), (u 4, .inl (K 0, N, .inl (fun _ => 0)))] ++ xX K r f a g tx) := hD
  refine lv_aload_n hx hb dX10_copy_20 rfl (lv_at hl 1 rfl) ?_
  refine va_get (D := D) (ci := 10) (v := .ref (r 52)) (C := RX10) (T := TX10) (N := 6) hx hb hg inC10 hown hK hP 56 rfl rfl 1 (by decide) (hg _ wt2_43) (fun _ h9 => h9) rfl dX10_copy_21 ?_
  refine lv_iconst (v := 0) hx hb dX10_copy_24 (by decide) ?_
  refine lv_aload_n hx hb dX10_copy_25 rfl (lv_at hl 0 rfl) ?_
  refine va_get (D := D) (ci := 10) (v := .ref (u 1)) (C := RX10) (T := TX10) (N := 6) hx hb hg inC10 hown hK hP 0 rfl rfl 1 (by decide) (hg _ wt2_43) (fun _ h9 => h9) rfl dX10_copy_26 ?_
  refine lv_iconst (v := 0) hx hb dX10_copy_29 (by decide) ?_
  refine lv_bipush (v := 12) hx hb dX10_copy_30 (by decide) ?_
  refine va_copyi (ty := .int) hx hb (hml.trans hl.1.symm) hown (hg _ wt4_68) (hg _ wt4_70) (hg _ wt4_69) (hg _ wt1_20) hK hP hD hS 57 1 0 0 rfl rfl rfl rfl rfl (by decide) (by decide) (by decide) (by decide +kernel) (by decide +kernel) (fun i _ => rfl) (by decide) (Nat.le_of_ble_eq_true rfl) dX10_copy_32 (fun H locs hP hD hS => ?_)
  have hP : va_P D vwCl ([(q, .inr (10, [.int (f 1632), .ref (u 1), .ref (u 2), .ref (u 3), .ref (u 4), .int 0])), (u 1, .inl (K 0, 12, .inl (va_cpy (a 52) (fun _ => 0) (0 : Int32).toNatClampNeg (0 : Int32).toNatClampNeg (12 : Int32).toNatClampNeg))), (u 2, .inl (K 0, 12, .inl (fun _ => 0))), (u 3, .inl (K 0, 37, .inl (fun _ => 0))), (u 4, .inl (K 0, N, .inl (fun _ => 0)))] ++ xX K r f a g tx) H := hP
  have hD : va_D A ([(q, .inr (10, [.int (f 1632), .ref (u 1), .ref (u 2), .ref (u 3), .ref (u 4), .int 0])), (u 1, .inl (K 0, 12, .inl (va_cpy (a 52) (fun _ => 0) (0 : Int32).toNatClampNeg (0 : Int32).toNatClampNeg (12 : Int32).toNatClampNeg))), (u 2, .inl (K 0, 12, .inl (fun _ => 0))), (u 3, .inl (K 0, 37, .inl (fun _ => 0))), (u 4, .inl (K 0, N, .inl (fun _ => 0)))] ++ xX K r f a g tx) := hD
  refine k_con (P := fun z => va_P D vwCl ([(q, .inr (10, [.int (f 1632), .ref (u 1), .ref (u 2), .ref (u 3), .ref (u 4), .int 0])), (u 1, .inl (K 0, 12, .inl z)), (u 2, .inl (K 0, 12, .inl (fun _ => 0))), (u 3, .inl (K 0, 37, .inl (fun _ => 0))), (u 4, .inl (K 0, N, .inl (fun _ => 0)))] ++ xX K r f a g tx) H ∧ va_D A ([(q, .inr (10, [.int (f 1632), .ref (u 1), .ref (u 2), .ref (u 3), .ref (u 4), .int 0])), (u 1, .inl (K 0, 12, .inl z)), (u 2, .inl (K 0, 12, .inl (fun _ => 0))), (u 3, .inl (K 0, 37, .inl (fun _ => 0))), (u 4, .inl (K 0, N, .inl (fun _ => 0)))] ++ xX K r f a g tx)) (va_cpy (a 52) (fun _ => 0) (0 : Int32).toNatClampNeg (0 : Int32).toNatClampNeg (12 : Int32).toNatClampNeg) ⟨hP, hD⟩ (fun k1_ hq => ?_)
  obtain ⟨hP, hD⟩ := hq
  refine lv_aload_n hx hb dX10_copy_35 rfl (lv_at hl 1 rfl) ?_
  refine va_get (D := D) (ci := 10) (v := .ref (r 53)) (C := RX10) (T := TX10) (N := 6) hx hb hg inC10 hown hK hP 56 rfl rfl 2 (by decide) (hg _ wt2_46) (fun _ h9 => h9) rfl dX10_copy_36 ?_
  refine lv_iconst (v := 0) hx hb dX10_copy_39 (by decide) ?_
  refine lv_aload_n hx hb dX10_copy_40 rfl (lv_at hl 0 rfl) ?_
  refine va_get (D := D) (ci := 10) (v := .ref (u 2)) (C := RX10) (T := TX10) (N := 6) hx hb hg inC10 hown hK hP 0 rfl rfl 2 (by decide) (hg _ wt2_46) (fun _ h9 => h9) rfl dX10_copy_41 ?_
  refine lv_iconst (v := 0) hx hb dX10_copy_44 (by decide) ?_
  refine lv_bipush (v := 12) hx hb dX10_copy_45 (by decide) ?_
  refine va_copyi (ty := .int) hx hb (hml.trans hl.1.symm) hown (hg _ wt4_68) (hg _ wt4_70) (hg _ wt4_69) (hg _ wt1_20) hK hP hD hS 58 2 0 0 rfl rfl rfl rfl rfl (by decide) (by decide) (by decide) (by decide +kernel) (by decide +kernel) (fun i _ => rfl) (by decide) (Nat.le_of_ble_eq_true rfl) dX10_copy_47 (fun H locs hP hD hS => ?_)
  have hP : va_P D vwCl ([(q, .inr (10, [.int (f 1632), .ref (u 1), .ref (u 2), .ref (u 3), .ref (u 4), .int 0])), (u 1, .inl (K 0, 12, .inl k1_)), (u 2, .inl (K 0, 12, .inl (va_cpy (a 53) (fun _ => 0) (0 : Int32).toNatClampNeg (0 : Int32).toNatClampNeg (12 : Int32).toNatClampNeg))), (u 3, .inl (K 0, 37, .inl (fun _ => 0))), (u 4, .inl (K 0, N, .inl (fun _ => 0)))] ++ xX K r f a g tx) H := hP
  have hD : va_D A ([(q, .inr (10, [.int (f 1632), .ref (u 1), .ref (u 2), .ref (u 3), .ref (u 4), .int 0])), (u 1, .inl (K 0, 12, .inl k1_)), (u 2, .inl (K 0, 12, .inl (va_cpy (a 53) (fun _ => 0) (0 : Int32).toNatClampNeg (0 : Int32).toNatClampNeg (12 : Int32).toNatClampNeg))), (u 3, .inl (K 0, 37, .inl (fun _ => 0))), (u 4, .inl (K 0, N, .inl (fun _ => 0)))] ++ xX K r f a g tx) := hD
  refine k_con (P := fun z => va_P D vwCl ([(q, .inr (10, [.int (f 1632), .ref (u 1), .ref (u 2), .ref (u 3), .ref (u 4), .int 0])), (u 1, .inl (K 0, 12, .inl k1_)), (u 2, .inl (K 0, 12, .inl z)), (u 3, .inl (K 0, 37, .inl (fun _ => 0))), (u 4, .inl (K 0, N, .inl (fun _ => 0)))] ++ xX K r f a g tx) H ∧ va_D A ([(q, .inr (10, [.int (f 1632), .ref (u 1), .ref (u 2), .ref (u 3), .ref (u 4), .int 0])), (u 1, .inl (K 0, 12, .inl k1_)), (u 2, .inl (K 0, 12, .inl z)), (u 3, .inl (K 0, 37, .inl (fun _ => 0))), (u 4, .inl (K 0, N, .inl (fun _ => 0)))] ++ xX K r f a g tx)) (va_cpy (a 53) (fun _ => 0) (0 : Int32).toNatClampNeg (0 : Int32).toNatClampNeg (12 : Int32).toNatClampNeg) ⟨hP, hD⟩ (fun k2_ hq => ?_)
  obtain ⟨hP, hD⟩ := hq
  refine lv_aload_n hx hb dX10_copy_50 rfl (lv_at hl 1 rfl) ?_
  refine va_get (D := D) (ci := 10) (v := .ref (r 54)) (C := RX10) (T := TX10) (N := 6) hx hb hg inC10 hown hK hP 56 rfl rfl 3 (by decide) (hg _ wt2_48) (fun _ h9 => h9) rfl dX10_copy_51 ?_
  refine lv_iconst (v := 0) hx hb dX10_copy_54 (by decide) ?_
  refine lv_aload_n hx hb dX10_copy_55 rfl (lv_at hl 0 rfl) ?_
  refine va_get (D := D) (ci := 10) (v := .ref (u 3)) (C := RX10) (T := TX10) (N := 6) hx hb hg inC10 hown hK hP 0 rfl rfl 3 (by decide) (hg _ wt2_48) (fun _ h9 => h9) rfl dX10_copy_56 ?_
  refine lv_iconst (v := 0) hx hb dX10_copy_59 (by decide) ?_
  refine lv_aload_n hx hb dX10_copy_60 rfl (lv_at hl 1 rfl) ?_
  refine va_get (D := D) (ci := 10) (v := .ref (r 54)) (C := RX10) (T := TX10) (N := 6) hx hb hg inC10 hown hK hP 56 rfl rfl 3 (by decide) (hg _ wt2_48) (fun _ h9 => h9) rfl dX10_copy_61 ?_
  refine va_alen (v := 37) hx hb hK hP 59 0 rfl rfl rfl dX10_copy_64 ?_
  refine va_copyi (ty := .int) hx hb (hml.trans hl.1.symm) hown (hg _ wt4_68) (hg _ wt4_70) (hg _ wt4_69) (hg _ wt1_20) hK hP hD hS 59 3 0 0 rfl rfl rfl rfl rfl (by decide) (by decide) (by decide) (by decide +kernel) (by decide +kernel) (fun i _ => rfl) (by decide) (Nat.le_of_ble_eq_true rfl) dX10_copy_65 (fun H locs hP hD hS => ?_)
  have hP : va_P D vwCl ([(q, .inr (10, [.int (f 1632), .ref (u 1), .ref (u 2), .ref (u 3), .ref (u 4), .int 0])), (u 1, .inl (K 0, 12, .inl k1_)), (u 2, .inl (K 0, 12, .inl k2_)), (u 3, .inl (K 0, 37, .inl (va_cpy (a 54) (fun _ => 0) (0 : Int32).toNatClampNeg (0 : Int32).toNatClampNeg (37 : Int32).toNatClampNeg))), (u 4, .inl (K 0, N, .inl (fun _ => 0)))] ++ xX K r f a g tx) H := hP
  have hD : va_D A ([(q, .inr (10, [.int (f 1632), .ref (u 1), .ref (u 2), .ref (u 3), .ref (u 4), .int 0])), (u 1, .inl (K 0, 12, .inl k1_)), (u 2, .inl (K 0, 12, .inl k2_)), (u 3, .inl (K 0, 37, .inl (va_cpy (a 54) (fun _ => 0) (0 : Int32).toNatClampNeg (0 : Int32).toNatClampNeg (37 : Int32).toNatClampNeg))), (u 4, .inl (K 0, N, .inl (fun _ => 0)))] ++ xX K r f a g tx) := hD
  refine k_con (P := fun z => va_P D vwCl ([(q, .inr (10, [.int (f 1632), .ref (u 1), .ref (u 2), .ref (u 3), .ref (u 4), .int 0])), (u 1, .inl (K 0, 12, .inl k1_)), (u 2, .inl (K 0, 12, .inl k2_)), (u 3, .inl (K 0, 37, .inl z)), (u 4, .inl (K 0, N, .inl (fun _ => 0)))] ++ xX K r f a g tx) H ∧ va_D A ([(q, .inr (10, [.int (f 1632), .ref (u 1), .ref (u 2), .ref (u 3), .ref (u 4), .int 0])), (u 1, .inl (K 0, 12, .inl k1_)), (u 2, .inl (K 0, 12, .inl k2_)), (u 3, .inl (K 0, 37, .inl z)), (u 4, .inl (K 0, N, .inl (fun _ => 0)))] ++ xX K r f a g tx)) (va_cpy (a 54) (fun _ => 0) (0 : Int32).toNatClampNeg (0 : Int32).toNatClampNeg (37 : Int32).toNatClampNeg) ⟨hP, hD⟩ (fun k3_ hq => ?_)
  obtain ⟨hP, hD⟩ := hq
  refine lv_aload_n hx hb dX10_copy_68 rfl (lv_at hl 0 rfl) ?_
  refine lv_aload_n hx hb dX10_copy_69 rfl (lv_at hl 0 rfl) ?_
  refine va_get (D := D) (ci := 10) (v := .ref (u 4)) (C := RX10) (T := TX10) (N := 6) hx hb hg inC10 hown hK hP 0 rfl rfl 4 (by decide) (hg _ wt2_49) (fun _ h9 => h9) rfl dX10_copy_70 ?_
  refine va_alen (v := nI N) hx hb hK hP 4 0 rfl rfl rfl dX10_copy_73 ?_
  refine va_put (D := D) (ci := 10) (v := .int (nI N)) (ty := .int) (C := RX10) (T := TX10) (N := 6) hx hb hg inC10 tyX10 tyX10_ok nmX10 hown hK hP hD hS 0 rfl rfl 5 (by decide) (hg _ wt2_50) (fun _ h9 => h9) rfl (by decide +kernel) rfl rfl (Nat.le_of_ble_eq_true rfl) dX10_copy_74 (fun H locs hP hD hS => ?_)
  have hP : va_P D vwCl ([(q, .inr (10, [.int (f 1632), .ref (u 1), .ref (u 2), .ref (u 3), .ref (u 4), .int (nI N)])), (u 1, .inl (K 0, 12, .inl k1_)), (u 2, .inl (K 0, 12, .inl k2_)), (u 3, .inl (K 0, 37, .inl k3_)), (u 4, .inl (K 0, N, .inl (fun _ => 0)))] ++ xX K r f a g tx) H := hP
  have hD : va_D A ([(q, .inr (10, [.int (f 1632), .ref (u 1), .ref (u 2), .ref (u 3), .ref (u 4), .int (nI N)])), (u 1, .inl (K 0, 12, .inl k1_)), (u 2, .inl (K 0, 12, .inl k2_)), (u 3, .inl (K 0, 37, .inl k3_)), (u 4, .inl (K 0, N, .inl (fun _ => 0)))] ++ xX K r f a g tx) := hD
  have bn2 : kb 0 (nI N) 400 := kb_nI hN4 (by decide)
  have ecl : (nI N).toNatClampNeg = N := nI_clamp (by omega)
  refine lv_aload_n hx hb dX10_copy_77 rfl (lv_at hl 1 rfl) ?_
  refine va_get (D := D) (ci := 10) (v := .ref (r 55)) (C := RX10) (T := TX10) (N := 6) hx hb hg inC10 hown hK hP 56 rfl rfl 4 (by decide) (hg _ wt2_49) (fun _ h9 => h9) rfl dX10_copy_78 ?_
  refine lv_iconst (v := 0) hx hb dX10_copy_81 (by decide) ?_
  refine lv_aload_n hx hb dX10_copy_82 rfl (lv_at hl 0 rfl) ?_
  refine va_get (D := D) (ci := 10) (v := .ref (u 4)) (C := RX10) (T := TX10) (N := 6) hx hb hg inC10 hown hK hP 0 rfl rfl 4 (by decide) (hg _ wt2_49) (fun _ h9 => h9) rfl dX10_copy_83 ?_
  refine lv_iconst (v := 0) hx hb dX10_copy_86 (by decide) ?_
  refine lv_aload_n hx hb dX10_copy_87 rfl (lv_at hl 0 rfl) ?_
  refine va_get (D := D) (ci := 10) (v := .int (nI N)) (C := RX10) (T := TX10) (N := 6) hx hb hg inC10 hown hK hP 0 rfl rfl 5 (by decide) (hg _ wt2_50) (fun _ h9 => h9) rfl dX10_copy_88 ?_
  refine va_copyi (ty := .int) hx hb (hml.trans hl.1.symm) hown (hg _ wt4_68) (hg _ wt4_70) (hg _ wt4_69) (hg _ wt1_20) hK hP hD hS 60 4 0 0 rfl rfl rfl rfl rfl (by decide) (by decide) (kb_nl bn2 (by decide)) (by rw [cl_0, ecl]; omega) (by rw [cl_0, ecl]; omega) (fun i _ => rfl) (by decide) (Nat.le_of_ble_eq_true rfl) dX10_copy_91 (fun H locs hP hD hS => ?_)
  have hP : va_P D vwCl ([(q, .inr (10, [.int (f 1632), .ref (u 1), .ref (u 2), .ref (u 3), .ref (u 4), .int (nI N)])), (u 1, .inl (K 0, 12, .inl k1_)), (u 2, .inl (K 0, 12, .inl k2_)), (u 3, .inl (K 0, 37, .inl k3_)), (u 4, .inl (K 0, N, .inl (va_cpy (a 55) (fun _ => 0) (0 : Int32).toNatClampNeg (0 : Int32).toNatClampNeg (nI N : Int32).toNatClampNeg)))] ++ xX K r f a g tx) H := hP
  have hD : va_D A ([(q, .inr (10, [.int (f 1632), .ref (u 1), .ref (u 2), .ref (u 3), .ref (u 4), .int (nI N)])), (u 1, .inl (K 0, 12, .inl k1_)), (u 2, .inl (K 0, 12, .inl k2_)), (u 3, .inl (K 0, 37, .inl k3_)), (u 4, .inl (K 0, N, .inl (va_cpy (a 55) (fun _ => 0) (0 : Int32).toNatClampNeg (0 : Int32).toNatClampNeg (nI N : Int32).toNatClampNeg)))] ++ xX K r f a g tx) := hD
  refine k_con (P := fun z => va_P D vwCl ([(q, .inr (10, [.int (f 1632), .ref (u 1), .ref (u 2), .ref (u 3), .ref (u 4), .int (nI N)])), (u 1, .inl (K 0, 12, .inl k1_)), (u 2, .inl (K 0, 12, .inl k2_)), (u 3, .inl (K 0, 37, .inl k3_)), (u 4, .inl (K 0, N, .inl z))] ++ xX K r f a g tx) H ∧ va_D A ([(q, .inr (10, [.int (f 1632), .ref (u 1), .ref (u 2), .ref (u 3), .ref (u 4), .int (nI N)])), (u 1, .inl (K 0, 12, .inl k1_)), (u 2, .inl (K 0, 12, .inl k2_)), (u 3, .inl (K 0, 37, .inl k3_)), (u 4, .inl (K 0, N, .inl z))] ++ xX K r f a g tx) ∧ ∀ j, kb 0 (z j) 65535) (va_cpy (a 55) (fun _ => 0) (0 : Int32).toNatClampNeg (0 : Int32).toNatClampNeg (nI N : Int32).toNatClampNeg) ⟨hP, hD, fun j => cpy_b (xI_c hI) (fun _ => kc_0 |> fun b => kb_w b (by decide) (by decide)) j⟩ (fun k4_ hq => ?_)
  obtain ⟨hP, hD, hB4⟩ := hq
  refine lv_aload_n hx hb dX10_copy_94 rfl (lv_at hl 0 rfl) ?_
  exact kR_ret hx hb hr hlocks hK hS dX10_copy_95 ((fun k => if k = 0 then q else u k, fun k => if k = 0 then f 1632 else nI N, fun k => if k = 1 then k1_ else if k = 2 then k2_ else if k = 3 then k3_ else k4_, N) : tX) rfl hP hD ⟨hN4, bcl, hB4⟩
