/-! terms: the rows TERM_LEAST and TERM_MOST -/
def kIE (l : Launch) (y : MethodName) (wd : List Cond) (rm : Room) (D : va_G) (tys : List (ClassId × FieldType)) (E : (Nat → Prop) → State → Heap → Prop) (av : List Value) (ws : va_W) {S : Type} (post : Int32 → S → Prop) (w2 : S → va_W) (mc ms : Nat) : Prop := ∀ sz, Met l y wd rm (va_Pc av (fun U => kPc D tys ws sz U ∧ E (va_A ws sz) U U.heap)) (va_Qi post (kB D tys w2 (va_A ws sz)) (va_A ws sz)) mc ms (va_A ws sz)
theorem kIE.of {l : Launch} {y : MethodName} {wd wd' : List Cond} {rm : Room} {D : va_G} {tys : List (ClassId × FieldType)} {E : (Nat → Prop) → State → Heap → Prop} {av : List Value} {ws : va_W} {S : Type} {w2 : S → va_W} {mc ms : Nat} {cc : ByteArray} {maxL : Nat} {ret : Option FieldType} {post : Int32 → S → Prop} (hy : plainName y.cls = true) (hw : wd = Cond.code y cc maxL ret :: wd') (hlen : (lg_sl av).length ≤ maxL)
    (body : ∀ (p : Program) (e : Env) (s : State) (m : MethodId) (below : List Frame) (meth : Method) (c : Code) (A : Nat → Prop), p.tables.exec = Jvm.exec → c.code = cc → meth.sig.returnType = ret → c.maxLocals = maxL → s.vm.findClass y.cls = some m.cls → (∀ w ∈ wd, w.before av.toArray s = true) → meth.locks = false → meth.name = y.name → va_K D vwCl tys s → va_P D vwCl ws s.heap → va_D A ws → va_S A s.heap s.heap [] → (∀ q, s.heap.size ≤ q → A q) → E A s s.heap → ∀ ls : Array Slot, lv_has ls maxL (lv_args 0 av) → W p l e rm s m av.toArray below meth c s.heap [] 0 0 (kQi D tys post w2 A below av.toArray s mc ms) (F0 m 0 ls [])) :
    kIE l y wd rm D tys E av ws post w2 mc ms := by
  intro sz
  refine Met.ofW (cc := cc) (maxL := maxL) (ret := ret) hy hw ?_
  intro p e s m args below meth c s₁ B hml hv
  obtain ⟨rfl, ⟨hsz, hP, hK, hD0⟩, hE⟩ := hv
  subst hsz
  rw [lg_entry_eq]
  exact body p e s m below meth c (va_A ws s.heap.size) B.exec B.bytes B.returns hml (findClass_of_methodNamed B.named) (atoms_spec (ws := wd) B.pre) B.notSynchronized (name_of_methodNamed B.named B.method).1 hK hP hD0.self va_S.rf (fun q h => Or.inr h) hE _ (lv_entry av hlen)
def tl0 : Nat → Int32 := upd (fun _ => 0) 1 1
def tm0 : Nat → Int32 := upd (upd (upd (upd (fun _ => 0) 0 999) 1 99) 2 10) 3 9
def kT (A : Nat → Prop) (U : State) (H : Heap) : Prop := ∃ t1 t2 : Nat, va_Z "SunriseRoof" "TERM_LEAST" "[I" (.ref t1) A U H ∧ va_T .int t1 4 (fun j => .int (tl0 j)) A U H ∧ va_Z "SunriseRoof" "TERM_MOST" "[I" (.ref t2) A U H ∧ va_T .int t2 4 (fun j => .int (tm0 j)) A U H
def xT (y lo hi w : Int32) : Int32 := if y < lo then -1 else if y ≤ hi then w else -1
theorem xge4 {x : Int32} (h0 : ¬ x = 0) (h1 : ¬ x = 1) (h2 : ¬ x = 2) (h3 : ¬ x = 3) (h : ¬ x < 0) : 4 ≤ x := by
  have g0 := lv_neT h0 (a := 0) (by decide +kernel)
  have g1 := lv_neT h1 (a := 1) (by decide +kernel)
  have g2 := lv_neT h2 (a := 2) (by decide +kernel)
  have g3 := lv_neT h3 (a := 3) (by decide +kernel)
  rw [Int32.lt_iff_toInt_lt] at h
  rw [Int32.le_iff_toInt_le]
  have e0 : (0 : Int32).toInt = 0 := by decide +kernel
  have e4 : (4 : Int32).toInt = 4 := by decide +kernel
  omega

theorem dX11_terms_0 : decode cX11_terms 0 = .ok (.iload_n 1, 1) := by decide +kernel
theorem dX11_terms_1 : decode cX11_terms 1 = .ok (.ifCond .lt 26, 3) := by decide +kernel
theorem dX11_terms_4 : decode cX11_terms 4 = .ok (.iload_n 1, 1) := by decide +kernel
theorem dX11_terms_5 : decode cX11_terms 5 = .ok (.iconst 4, 1) := by decide +kernel
theorem dX11_terms_6 : decode cX11_terms 6 = .ok (.if_icmp .ge 21, 3) := by decide +kernel
theorem dX11_terms_9 : decode cX11_terms 9 = .ok (.iload_n 2, 1) := by decide +kernel
theorem dX11_terms_10 : decode cX11_terms 10 = .ok (.getstatic 185, 3) := by decide +kernel
theorem dX11_terms_13 : decode cX11_terms 13 = .ok (.iload_n 1, 1) := by decide +kernel
theorem dX11_terms_14 : decode cX11_terms 14 = .ok (.iaload, 1) := by decide +kernel
theorem dX11_terms_15 : decode cX11_terms 15 = .ok (.if_icmp .lt 12, 3) := by decide +kernel
theorem dX11_terms_18 : decode cX11_terms 18 = .ok (.iload_n 2, 1) := by decide +kernel
theorem dX11_terms_19 : decode cX11_terms 19 = .ok (.getstatic 188, 3) := by decide +kernel
theorem dX11_terms_22 : decode cX11_terms 22 = .ok (.iload_n 1, 1) := by decide +kernel
theorem dX11_terms_23 : decode cX11_terms 23 = .ok (.iaload, 1) := by decide +kernel
theorem dX11_terms_24 : decode cX11_terms 24 = .ok (.if_icmp .le 9, 3) := by decide +kernel
theorem dX11_terms_27 : decode cX11_terms 27 = .ok (.aload_n 0, 1) := by decide +kernel
theorem dX11_terms_28 : decode cX11_terms 28 = .ok (.iconst (-1), 1) := by decide +kernel
theorem dX11_terms_29 : decode cX11_terms 29 = .ok (.invokevirtual 114, 3) := by decide +kernel
theorem dX11_terms_32 : decode cX11_terms 32 = .ok (.ireturn, 1) := by decide +kernel
theorem dX11_terms_33 : decode cX11_terms 33 = .ok (.aload_n 0, 1) := by decide +kernel
theorem dX11_terms_34 : decode cX11_terms 34 = .ok (.getfield 10, 3) := by decide +kernel
theorem dX11_terms_37 : decode cX11_terms 37 = .ok (.getfield 191, 3) := by decide +kernel
theorem dX11_terms_40 : decode cX11_terms 40 = .ok (.iload_n 1, 1) := by decide +kernel
theorem dX11_terms_41 : decode cX11_terms 41 = .ok (.iaload, 1) := by decide +kernel
theorem dX11_terms_42 : decode cX11_terms 42 = .ok (.istore_n 3, 1) := by decide +kernel
theorem dX11_terms_43 : decode cX11_terms 43 = .ok (.aload_n 0, 1) := by decide +kernel
theorem dX11_terms_44 : decode cX11_terms 44 = .ok (.getfield 10, 3) := by decide +kernel
theorem dX11_terms_47 : decode cX11_terms 47 = .ok (.getfield 191, 3) := by decide +kernel
theorem dX11_terms_50 : decode cX11_terms 50 = .ok (.iload_n 1, 1) := by decide +kernel
theorem dX11_terms_51 : decode cX11_terms 51 = .ok (.iload_n 2, 1) := by decide +kernel
theorem dX11_terms_52 : decode cX11_terms 52 = .ok (.iastore, 1) := by decide +kernel
theorem dX11_terms_53 : decode cX11_terms 53 = .ok (.aload_n 0, 1) := by decide +kernel
theorem dX11_terms_54 : decode cX11_terms 54 = .ok (.getfield 19, 3) := by decide +kernel
theorem dX11_terms_57 : decode cX11_terms 57 = .ok (.invokevirtual 118, 3) := by decide +kernel
theorem dX11_terms_60 : decode cX11_terms 60 = .ok (.aload_n 0, 1) := by decide +kernel
theorem dX11_terms_61 : decode cX11_terms 61 = .ok (.iload_n 3, 1) := by decide +kernel
theorem dX11_terms_62 : decode cX11_terms 62 = .ok (.invokevirtual 121, 3) := by decide +kernel
theorem dX11_terms_65 : decode cX11_terms 65 = .ok (.ireturn, 1) := by decide +kernel
theorem wt3_117 : Cond.fieldLink RX11 185 "SunriseRoof" "TERM_LEAST" "[I" ∈ kG := kt3 117 rfl rfl
theorem wt3_119 : Cond.fieldLink RX11 188 "SunriseRoof" "TERM_MOST" "[I" ∈ kG := kt3 119 rfl rfl
set_option maxHeartbeats 4000000 in
set_option maxRecDepth 100000 in
theorem x_terms (l : Launch) {D : va_G} {K : Nat → ClassId} (r : Nat → Nat) (f : Nat → Int32) (a : Nat → Nat → Int32) (g : xG) (h0 : a 11 0 = 0) (h1 : a 11 1 = 30) (h2 : a 11 2 = 2) (h3 : a 11 3 = 0) (x : Int32) (y : Int32)  : kIE l yX11_terms (Cond.code yX11_terms cX11_terms 4 (some .int) :: kG) (rmD 3 0 0) D (tysK K) kT [.ref (r 0), .int x, .int y] (xW K r f a g) (fun v (u : xS) => v = (if x = 0 then xT y 0 999 0 else if x = 1 then xT y 1 99 30 else if x = 2 then xT y 0 10 2 else if x = 3 then xT y 0 9 0 else -1)) (fun u => xW K r u.1 u.2.1 u.2.2) 0 0 := by
  refine kIE.of (cc := cX11_terms) (maxL := 4) (ret := (some .int)) (by decide) rfl (Nat.le_of_ble_eq_true rfl) ?_
  intro p e s m below meth c A hx hb hr hml hown hts hlocks hnm hK hP hD hS hA hE ls hl
  have hg : ∀ w ∈ kG, w.before _ s = true := fun w h => hts w (List.mem_cons_of_mem _ h)
  have hown : s.vm.findClass RX11 = some m.cls := hown
  have hl : lv_has ls 4 [(0, .ref (r 0)), (1, .int x), (2, .int y)] := hl
  obtain ⟨tt1, tt2, hz1, hT1, hz2, hT2⟩ := hE
  by_cases q1 : x = 0
  · subst q1
    have hl : lv_has ls 4 [(0, .ref (r 0)), (1, .int 0), (2, .int y)] := hl
    refine lv_iload_n hx hb dX11_terms_0 rfl (lv_at hl 1 rfl) ?_
    refine lv_if_lt (tgt := 27) hx hb dX11_terms_1 (by decide) (fun c2 => absurd c2 (by decide +kernel)) (fun c2 => ?_)
    refine lv_iload_n hx hb dX11_terms_4 rfl (lv_at hl 1 rfl) ?_
    refine lv_iconst (v := 4) hx hb dX11_terms_5 (by decide) ?_
    refine lv_icmp_ge (tgt := 27) hx hb dX11_terms_6 (by decide) (fun c3 => absurd c3 (by decide +kernel)) (fun c3 => ?_)
    refine lv_iload_n hx hb dX11_terms_9 rfl (lv_at hl 2 rfl) ?_
    refine va_gets hx hb hz1 hS hown (hg _ wt3_117) (fun _ h => h) dX11_terms_10 ?_
    refine lv_iload_n hx hb dX11_terms_13 rfl (lv_at hl 1 rfl) ?_
    refine va_ti (v := .int 0) hx hb hT1 hS (k_in (by decide +kernel)) (by decide +kernel) dX11_terms_14 ?_
    refine lv_icmp_lt (tgt := 27) hx hb dX11_terms_15 (by decide) (fun c4 => ?_) (fun c4 => ?_)
    · refine lv_aload_n hx hb dX11_terms_27 rfl (lv_at hl 0 rfl) ?_
      refine lv_iconst (v := (-1)) hx hb dX11_terms_28 (by decide) ?_
      refine kI.callW (As := [.int (-1)]) (rest := []) ⟨hx, hb, hml, hown, hg⟩ (x_refuse1 l r f a g  ) (cwV 1 hg (kgV wt3_7 wt3_9 wp1_0 wt1_1 wt3_10) rfl rfl rfl (by decide +kernel) ⟨by decide, by decide⟩) hK hP hD hS hA 0 11 rfl rfl rfl hl.1 rfl (Nat.le_of_ble_eq_true rfl) dX11_terms_29 ⟨by decide, by decide⟩ (fun v7 u6 H locs hw5 hP hD hS => ?_)
      obtain ⟨f8, a9, g10⟩ := u6
      have hP : va_P D vwCl (xW K r f8 a9 g10) H := hP
      have hD : va_D A (xW K r f8 a9 g10) := hD
      refine k_top (z := (-1)) (hw5) ?_
      exact kI_ret (v := (-1)) hx hb hr hlocks rfl hK hS dX11_terms_32 (f8, a9, g10) hP hD (by simp [xT, c4])
    · refine lv_iload_n hx hb dX11_terms_18 rfl (lv_at hl 2 rfl) ?_
      refine va_gets hx hb hz2 hS hown (hg _ wt3_119) (fun _ h => h) dX11_terms_19 ?_
      refine lv_iload_n hx hb dX11_terms_22 rfl (lv_at hl 1 rfl) ?_
      refine va_ti (v := .int 999) hx hb hT2 hS (k_in (by decide +kernel)) (by decide +kernel) dX11_terms_23 ?_
      refine lv_icmp_le (tgt := 33) hx hb dX11_terms_24 (by decide) (fun c11 => ?_) (fun c11 => ?_)
      · refine lv_aload_n hx hb dX11_terms_33 rfl (lv_at hl 0 rfl) ?_
        refine va_get (D := D) (ci := 11) (v := .ref (r 1)) (C := RX11) (T := TX11) (N := 17) hx hb hg inC11 hown hK hP 0 rfl rfl 0 (by decide) (hg _ wt2_186) (fun _ h9 => h9) rfl dX11_terms_34 ?_
        refine va_get (D := D) (ci := 7) (v := .ref (r 11)) (C := RX7) (T := TX7) (N := 20) hx hb hg inC7 hown hK hP 1 rfl rfl 11 (by decide) (hg _ wt1_134) (fun _ h9 => h9) rfl dX11_terms_37 ?_
        refine lv_iload_n hx hb dX11_terms_40 rfl (lv_at hl 1 rfl) ?_
        refine va_iald hx hb hK hP 11 0 rfl rfl (k_in (by decide +kernel)) dX11_terms_41 ?_
        refine k_top (z := 0) (by rw [cl_0]; exact h0) ?_
        refine lv_istore_n (lv' := [(3, .int 0), (0, .ref (r 0)), (1, .int 0), (2, .int y)]) hx hb dX11_terms_42 rfl hl (by decide) rfl (fun ls hl => ?_)
        refine lv_aload_n hx hb dX11_terms_43 rfl (lv_at hl 1 rfl) ?_
        refine va_get (D := D) (ci := 11) (v := .ref (r 1)) (C := RX11) (T := TX11) (N := 17) hx hb hg inC11 hown hK hP 0 rfl rfl 0 (by decide) (hg _ wt2_186) (fun _ h9 => h9) rfl dX11_terms_44 ?_
        refine va_get (D := D) (ci := 7) (v := .ref (r 11)) (C := RX7) (T := TX7) (N := 20) hx hb hg inC7 hown hK hP 1 rfl rfl 11 (by decide) (hg _ wt1_134) (fun _ h9 => h9) rfl dX11_terms_47 ?_
        refine lv_iload_n hx hb dX11_terms_50 rfl (lv_at hl 2 rfl) ?_
        refine lv_iload_n hx hb dX11_terms_51 rfl (lv_at hl 3 rfl) ?_
        refine va_iast hx hb hK hP hD hS 11 0 rfl rfl (k_in (by decide +kernel)) dX11_terms_52 (fun H locs hP hD hS => ?_)
        rw [cl_0] at hP hD
        have hP : va_P D vwCl (xW K r f (va_up a 11 (upd (a 11) 0 y)) g) H := hP
        have hD : va_D A (xW K r f (va_up a 11 (upd (a 11) 0 y)) g) := hD
        refine k_gen (P := fun z => va_P D vwCl (xW K r f z g) H ∧ va_D A (xW K r f z g)) (va_up a 11 (upd (a 11) 0 y)) ⟨hP, hD⟩ (fun a_12 ea_12 hPD => ?_)
        have hP := hPD.1
        have hD := hPD.2
        refine lv_aload_n hx hb dX11_terms_53 rfl (lv_at hl 1 rfl) ?_
        refine va_get (D := D) (ci := 11) (v := .ref (r 22)) (C := RX11) (T := TX11) (N := 17) hx hb hg inC11 hown hK hP 0 rfl rfl 1 (by decide) (hg _ wt2_187) (fun _ h9 => h9) rfl dX11_terms_54 ?_
        refine kV.callW (As := []) (rest := []) ⟨hx, hb, hml, hown, hg⟩ (x_pastClear l r f a_12 g  ) (cwV 0 hg (kgV wt3_11 wt3_12 wt3_13 wt1_4 wt3_14) rfl rfl rfl (by decide +kernel) ⟨by decide, by decide⟩) hK hP hD hS hA 22 2 rfl rfl rfl hl.1 rfl (Nat.le_of_ble_eq_true rfl) dX11_terms_57 ⟨by decide, by decide⟩ (fun u14 H locs hw13 hP hD hS => ?_)
        obtain ⟨f16, a17, g18⟩ := u14
        have hP : va_P D vwCl (xW K r f16 a17 g18) H := hP
        have hD : va_D A (xW K r f16 a17 g18) := hD
        refine lv_aload_n hx hb dX11_terms_60 rfl (lv_at hl 1 rfl) ?_
        refine lv_iload_n hx hb dX11_terms_61 rfl (lv_at hl 0 rfl) ?_
        refine kI.callW (As := [.int 0]) (rest := []) ⟨hx, hb, hml, hown, hg⟩ (x_agreeChanged l r f16 a17 g18  0) (cwV 1 hg (kgV wt3_15 wt3_17 wp1_1 wt1_1 wt3_18) rfl rfl rfl (by decide +kernel) ⟨by decide, by decide⟩) hK hP hD hS hA 0 11 rfl rfl rfl hl.1 rfl (Nat.le_of_ble_eq_true rfl) dX11_terms_62 ⟨by decide, by decide⟩ (fun v21 u20 H locs hw19 hP hD hS => ?_)
        obtain ⟨f22, a23, g24⟩ := u20
        have hP : va_P D vwCl (xW K r f22 a23 g24) H := hP
        have hD : va_D A (xW K r f22 a23 g24) := hD
        refine k_top (z := 0) (hw19) ?_
        exact kI_ret (v := 0) hx hb hr hlocks rfl hK hS dX11_terms_65 (f22, a23, g24) hP hD (by simp [xT, c4, c11])
      · refine lv_aload_n hx hb dX11_terms_27 rfl (lv_at hl 0 rfl) ?_
        refine lv_iconst (v := (-1)) hx hb dX11_terms_28 (by decide) ?_
        refine kI.callW (As := [.int (-1)]) (rest := []) ⟨hx, hb, hml, hown, hg⟩ (x_refuse1 l r f a g  ) (cwV 1 hg (kgV wt3_7 wt3_9 wp1_0 wt1_1 wt3_10) rfl rfl rfl (by decide +kernel) ⟨by decide, by decide⟩) hK hP hD hS hA 0 11 rfl rfl rfl hl.1 rfl (Nat.le_of_ble_eq_true rfl) dX11_terms_29 ⟨by decide, by decide⟩ (fun v27 u26 H locs hw25 hP hD hS => ?_)
        obtain ⟨f28, a29, g30⟩ := u26
        have hP : va_P D vwCl (xW K r f28 a29 g30) H := hP
        have hD : va_D A (xW K r f28 a29 g30) := hD
        refine k_top (z := (-1)) (hw25) ?_
        exact kI_ret (v := (-1)) hx hb hr hlocks rfl hK hS dX11_terms_32 (f28, a29, g30) hP hD (by simp [xT, c4, c11])
  by_cases q31 : x = 1
  · subst q31
    have hl : lv_has ls 4 [(0, .ref (r 0)), (1, .int 1), (2, .int y)] := hl
    refine lv_iload_n hx hb dX11_terms_0 rfl (lv_at hl 1 rfl) ?_
    refine lv_if_lt (tgt := 27) hx hb dX11_terms_1 (by decide) (fun c32 => absurd c32 (by decide +kernel)) (fun c32 => ?_)
    refine lv_iload_n hx hb dX11_terms_4 rfl (lv_at hl 1 rfl) ?_
    refine lv_iconst (v := 4) hx hb dX11_terms_5 (by decide) ?_
    refine lv_icmp_ge (tgt := 27) hx hb dX11_terms_6 (by decide) (fun c33 => absurd c33 (by decide +kernel)) (fun c33 => ?_)
    refine lv_iload_n hx hb dX11_terms_9 rfl (lv_at hl 2 rfl) ?_
    refine va_gets hx hb hz1 hS hown (hg _ wt3_117) (fun _ h => h) dX11_terms_10 ?_
    refine lv_iload_n hx hb dX11_terms_13 rfl (lv_at hl 1 rfl) ?_
    refine va_ti (v := .int 1) hx hb hT1 hS (k_in (by decide +kernel)) (by decide +kernel) dX11_terms_14 ?_
    refine lv_icmp_lt (tgt := 27) hx hb dX11_terms_15 (by decide) (fun c34 => ?_) (fun c34 => ?_)
    · refine lv_aload_n hx hb dX11_terms_27 rfl (lv_at hl 0 rfl) ?_
      refine lv_iconst (v := (-1)) hx hb dX11_terms_28 (by decide) ?_
      refine kI.callW (As := [.int (-1)]) (rest := []) ⟨hx, hb, hml, hown, hg⟩ (x_refuse1 l r f a g  ) (cwV 1 hg (kgV wt3_7 wt3_9 wp1_0 wt1_1 wt3_10) rfl rfl rfl (by decide +kernel) ⟨by decide, by decide⟩) hK hP hD hS hA 0 11 rfl rfl rfl hl.1 rfl (Nat.le_of_ble_eq_true rfl) dX11_terms_29 ⟨by decide, by decide⟩ (fun v37 u36 H locs hw35 hP hD hS => ?_)
      obtain ⟨f38, a39, g40⟩ := u36
      have hP : va_P D vwCl (xW K r f38 a39 g40) H := hP
      have hD : va_D A (xW K r f38 a39 g40) := hD
      refine k_top (z := (-1)) (hw35) ?_
      exact kI_ret (v := (-1)) hx hb hr hlocks rfl hK hS dX11_terms_32 (f38, a39, g40) hP hD (by simp [xT, c34])
    · refine lv_iload_n hx hb dX11_terms_18 rfl (lv_at hl 2 rfl) ?_
      refine va_gets hx hb hz2 hS hown (hg _ wt3_119) (fun _ h => h) dX11_terms_19 ?_
      refine lv_iload_n hx hb dX11_terms_22 rfl (lv_at hl 1 rfl) ?_
      refine va_ti (v := .int 99) hx hb hT2 hS (k_in (by decide +kernel)) (by decide +kernel) dX11_terms_23 ?_
      refine lv_icmp_le (tgt := 33) hx hb dX11_terms_24 (by decide) (fun c41 => ?_) (fun c41 => ?_)
      · refine lv_aload_n hx hb dX11_terms_33 rfl (lv_at hl 0 rfl) ?_
        refine va_get (D := D) (ci := 11) (v := .ref (r 1)) (C := RX11) (T := TX11) (N := 17) hx hb hg inC11 hown hK hP 0 rfl rfl 0 (by decide) (hg _ wt2_186) (fun _ h9 => h9) rfl dX11_terms_34 ?_
        refine va_get (D := D) (ci := 7) (v := .ref (r 11)) (C := RX7) (T := TX7) (N := 20) hx hb hg inC7 hown hK hP 1 rfl rfl 11 (by decide) (hg _ wt1_134) (fun _ h9 => h9) rfl dX11_terms_37 ?_
        refine lv_iload_n hx hb dX11_terms_40 rfl (lv_at hl 1 rfl) ?_
        refine va_iald hx hb hK hP 11 0 rfl rfl (k_in (by decide +kernel)) dX11_terms_41 ?_
        refine k_top (z := 30) (by rw [cl_1]; exact h1) ?_
        refine lv_istore_n (lv' := [(3, .int 30), (0, .ref (r 0)), (1, .int 1), (2, .int y)]) hx hb dX11_terms_42 rfl hl (by decide) rfl (fun ls hl => ?_)
        refine lv_aload_n hx hb dX11_terms_43 rfl (lv_at hl 1 rfl) ?_
        refine va_get (D := D) (ci := 11) (v := .ref (r 1)) (C := RX11) (T := TX11) (N := 17) hx hb hg inC11 hown hK hP 0 rfl rfl 0 (by decide) (hg _ wt2_186) (fun _ h9 => h9) rfl dX11_terms_44 ?_
        refine va_get (D := D) (ci := 7) (v := .ref (r 11)) (C := RX7) (T := TX7) (N := 20) hx hb hg inC7 hown hK hP 1 rfl rfl 11 (by decide) (hg _ wt1_134) (fun _ h9 => h9) rfl dX11_terms_47 ?_
        refine lv_iload_n hx hb dX11_terms_50 rfl (lv_at hl 2 rfl) ?_
        refine lv_iload_n hx hb dX11_terms_51 rfl (lv_at hl 3 rfl) ?_
        refine va_iast hx hb hK hP hD hS 11 0 rfl rfl (k_in (by decide +kernel)) dX11_terms_52 (fun H locs hP hD hS => ?_)
        rw [cl_1] at hP hD
        have hP : va_P D vwCl (xW K r f (va_up a 11 (upd (a 11) 1 y)) g) H := hP
        have hD : va_D A (xW K r f (va_up a 11 (upd (a 11) 1 y)) g) := hD
        refine k_gen (P := fun z => va_P D vwCl (xW K r f z g) H ∧ va_D A (xW K r f z g)) (va_up a 11 (upd (a 11) 1 y)) ⟨hP, hD⟩ (fun a_42 ea_42 hPD => ?_)
        have hP := hPD.1
        have hD := hPD.2
        refine lv_aload_n hx hb dX11_terms_53 rfl (lv_at hl 1 rfl) ?_
        refine va_get (D := D) (ci := 11) (v := .ref (r 22)) (C := RX11) (T := TX11) (N := 17) hx hb hg inC11 hown hK hP 0 rfl rfl 1 (by decide) (hg _ wt2_187) (fun _ h9 => h9) rfl dX11_terms_54 ?_
        refine kV.callW (As := []) (rest := []) ⟨hx, hb, hml, hown, hg⟩ (x_pastClear l r f a_42 g  ) (cwV 0 hg (kgV wt3_11 wt3_12 wt3_13 wt1_4 wt3_14) rfl rfl rfl (by decide +kernel) ⟨by decide, by decide⟩) hK hP hD hS hA 22 2 rfl rfl rfl hl.1 rfl (Nat.le_of_ble_eq_true rfl) dX11_terms_57 ⟨by decide, by decide⟩ (fun u44 H locs hw43 hP hD hS => ?_)
        obtain ⟨f46, a47, g48⟩ := u44
        have hP : va_P D vwCl (xW K r f46 a47 g48) H := hP
        have hD : va_D A (xW K r f46 a47 g48) := hD
        refine lv_aload_n hx hb dX11_terms_60 rfl (lv_at hl 1 rfl) ?_
        refine lv_iload_n hx hb dX11_terms_61 rfl (lv_at hl 0 rfl) ?_
        refine kI.callW (As := [.int 30]) (rest := []) ⟨hx, hb, hml, hown, hg⟩ (x_agreeChanged l r f46 a47 g48  30) (cwV 1 hg (kgV wt3_15 wt3_17 wp1_1 wt1_1 wt3_18) rfl rfl rfl (by decide +kernel) ⟨by decide, by decide⟩) hK hP hD hS hA 0 11 rfl rfl rfl hl.1 rfl (Nat.le_of_ble_eq_true rfl) dX11_terms_62 ⟨by decide, by decide⟩ (fun v51 u50 H locs hw49 hP hD hS => ?_)
        obtain ⟨f52, a53, g54⟩ := u50
        have hP : va_P D vwCl (xW K r f52 a53 g54) H := hP
        have hD : va_D A (xW K r f52 a53 g54) := hD
        refine k_top (z := 30) (hw49) ?_
        exact kI_ret (v := 30) hx hb hr hlocks rfl hK hS dX11_terms_65 (f52, a53, g54) hP hD (by simp [xT, c34, c41])
      · refine lv_aload_n hx hb dX11_terms_27 rfl (lv_at hl 0 rfl) ?_
        refine lv_iconst (v := (-1)) hx hb dX11_terms_28 (by decide) ?_
        refine kI.callW (As := [.int (-1)]) (rest := []) ⟨hx, hb, hml, hown, hg⟩ (x_refuse1 l r f a g  ) (cwV 1 hg (kgV wt3_7 wt3_9 wp1_0 wt1_1 wt3_10) rfl rfl rfl (by decide +kernel) ⟨by decide, by decide⟩) hK hP hD hS hA 0 11 rfl rfl rfl hl.1 rfl (Nat.le_of_ble_eq_true rfl) dX11_terms_29 ⟨by decide, by decide⟩ (fun v57 u56 H locs hw55 hP hD hS => ?_)
        obtain ⟨f58, a59, g60⟩ := u56
        have hP : va_P D vwCl (xW K r f58 a59 g60) H := hP
        have hD : va_D A (xW K r f58 a59 g60) := hD
        refine k_top (z := (-1)) (hw55) ?_
        exact kI_ret (v := (-1)) hx hb hr hlocks rfl hK hS dX11_terms_32 (f58, a59, g60) hP hD (by simp [xT, c34, c41])
  by_cases q61 : x = 2
  · subst q61
    have hl : lv_has ls 4 [(0, .ref (r 0)), (1, .int 2), (2, .int y)] := hl
    refine lv_iload_n hx hb dX11_terms_0 rfl (lv_at hl 1 rfl) ?_
    refine lv_if_lt (tgt := 27) hx hb dX11_terms_1 (by decide) (fun c62 => absurd c62 (by decide +kernel)) (fun c62 => ?_)
    refine lv_iload_n hx hb dX11_terms_4 rfl (lv_at hl 1 rfl) ?_
    refine lv_iconst (v := 4) hx hb dX11_terms_5 (by decide) ?_
    refine lv_icmp_ge (tgt := 27) hx hb dX11_terms_6 (by decide) (fun c63 => absurd c63 (by decide +kernel)) (fun c63 => ?_)
    refine lv_iload_n hx hb dX11_terms_9 rfl (lv_at hl 2 rfl) ?_
    refine va_gets hx hb hz1 hS hown (hg _ wt3_117) (fun _ h => h) dX11_terms_10 ?_
    refine lv_iload_n hx hb dX11_terms_13 rfl (lv_at hl 1 rfl) ?_
    refine va_ti (v := .int 0) hx hb hT1 hS (k_in (by decide +kernel)) (by decide +kernel) dX11_terms_14 ?_
    refine lv_icmp_lt (tgt := 27) hx hb dX11_terms_15 (by decide) (fun c64 => ?_) (fun c64 => ?_)
    · refine lv_aload_n hx hb dX11_terms_27 rfl (lv_at hl 0 rfl) ?_
      refine lv_iconst (v := (-1)) hx hb dX11_terms_28 (by decide) ?_
      refine kI.callW (As := [.int (-1)]) (rest := []) ⟨hx, hb, hml, hown, hg⟩ (x_refuse1 l r f a g  ) (cwV 1 hg (kgV wt3_7 wt3_9 wp1_0 wt1_1 wt3_10) rfl rfl rfl (by decide +kernel) ⟨by decide, by decide⟩) hK hP hD hS hA 0 11 rfl rfl rfl hl.1 rfl (Nat.le_of_ble_eq_true rfl) dX11_terms_29 ⟨by decide, by decide⟩ (fun v67 u66 H locs hw65 hP hD hS => ?_)
      obtain ⟨f68, a69, g70⟩ := u66
      have hP : va_P D vwCl (xW K r f68 a69 g70) H := hP
      have hD : va_D A (xW K r f68 a69 g70) := hD
      refine k_top (z := (-1)) (hw65) ?_
      exact kI_ret (v := (-1)) hx hb hr hlocks rfl hK hS dX11_terms_32 (f68, a69, g70) hP hD (by simp [xT, c64])
    · refine lv_iload_n hx hb dX11_terms_18 rfl (lv_at hl 2 rfl) ?_
      refine va_gets hx hb hz2 hS hown (hg _ wt3_119) (fun _ h => h) dX11_terms_19 ?_
      refine lv_iload_n hx hb dX11_terms_22 rfl (lv_at hl 1 rfl) ?_
      refine va_ti (v := .int 10) hx hb hT2 hS (k_in (by decide +kernel)) (by decide +kernel) dX11_terms_23 ?_
      refine lv_icmp_le (tgt := 33) hx hb dX11_terms_24 (by decide) (fun c71 => ?_) (fun c71 => ?_)
      · refine lv_aload_n hx hb dX11_terms_33 rfl (lv_at hl 0 rfl) ?_
        refine va_get (D := D) (ci := 11) (v := .ref (r 1)) (C := RX11) (T := TX11) (N := 17) hx hb hg inC11 hown hK hP 0 rfl rfl 0 (by decide) (hg _ wt2_186) (fun _ h9 => h9) rfl dX11_terms_34 ?_
        refine va_get (D := D) (ci := 7) (v := .ref (r 11)) (C := RX7) (T := TX7) (N := 20) hx hb hg inC7 hown hK hP 1 rfl rfl 11 (by decide) (hg _ wt1_134) (fun _ h9 => h9) rfl dX11_terms_37 ?_
        refine lv_iload_n hx hb dX11_terms_40 rfl (lv_at hl 1 rfl) ?_
        refine va_iald hx hb hK hP 11 0 rfl rfl (k_in (by decide +kernel)) dX11_terms_41 ?_
        refine k_top (z := 2) (by rw [cl_2]; exact h2) ?_
        refine lv_istore_n (lv' := [(3, .int 2), (0, .ref (r 0)), (1, .int 2), (2, .int y)]) hx hb dX11_terms_42 rfl hl (by decide) rfl (fun ls hl => ?_)
        refine lv_aload_n hx hb dX11_terms_43 rfl (lv_at hl 1 rfl) ?_
        refine va_get (D := D) (ci := 11) (v := .ref (r 1)) (C := RX11) (T := TX11) (N := 17) hx hb hg inC11 hown hK hP 0 rfl rfl 0 (by decide) (hg _ wt2_186) (fun _ h9 => h9) rfl dX11_terms_44 ?_
        refine va_get (D := D) (ci := 7) (v := .ref (r 11)) (C := RX7) (T := TX7) (N := 20) hx hb hg inC7 hown hK hP 1 rfl rfl 11 (by decide) (hg _ wt1_134) (fun _ h9 => h9) rfl dX11_terms_47 ?_
        refine lv_iload_n hx hb dX11_terms_50 rfl (lv_at hl 2 rfl) ?_
        refine lv_iload_n hx hb dX11_terms_51 rfl (lv_at hl 3 rfl) ?_
        refine va_iast hx hb hK hP hD hS 11 0 rfl rfl (k_in (by decide +kernel)) dX11_terms_52 (fun H locs hP hD hS => ?_)
        rw [cl_2] at hP hD
        have hP : va_P D vwCl (xW K r f (va_up a 11 (upd (a 11) 2 y)) g) H := hP
        have hD : va_D A (xW K r f (va_up a 11 (upd (a 11) 2 y)) g) := hD
        refine k_gen (P := fun z => va_P D vwCl (xW K r f z g) H ∧ va_D A (xW K r f z g)) (va_up a 11 (upd (a 11) 2 y)) ⟨hP, hD⟩ (fun a_72 ea_72 hPD => ?_)
        have hP := hPD.1
        have hD := hPD.2
        refine lv_aload_n hx hb dX11_terms_53 rfl (lv_at hl 1 rfl) ?_
        refine va_get (D := D) (ci := 11) (v := .ref (r 22)) (C := RX11) (T := TX11) (N := 17) hx hb hg inC11 hown hK hP 0 rfl rfl 1 (by decide) (hg _ wt2_187) (fun _ h9 => h9) rfl dX11_terms_54 ?_
        refine kV.callW (As := []) (rest := []) ⟨hx, hb, hml, hown, hg⟩ (x_pastClear l r f a_72 g  ) (cwV 0 hg (kgV wt3_11 wt3_12 wt3_13 wt1_4 wt3_14) rfl rfl rfl (by decide +kernel) ⟨by decide, by decide⟩) hK hP hD hS hA 22 2 rfl rfl rfl hl.1 rfl (Nat.le_of_ble_eq_true rfl) dX11_terms_57 ⟨by decide, by decide⟩ (fun u74 H locs hw73 hP hD hS => ?_)
        obtain ⟨f76, a77, g78⟩ := u74
        have hP : va_P D vwCl (xW K r f76 a77 g78) H := hP
        have hD : va_D A (xW K r f76 a77 g78) := hD
        refine lv_aload_n hx hb dX11_terms_60 rfl (lv_at hl 1 rfl) ?_
        refine lv_iload_n hx hb dX11_terms_61 rfl (lv_at hl 0 rfl) ?_
        refine kI.callW (As := [.int 2]) (rest := []) ⟨hx, hb, hml, hown, hg⟩ (x_agreeChanged l r f76 a77 g78  2) (cwV 1 hg (kgV wt3_15 wt3_17 wp1_1 wt1_1 wt3_18) rfl rfl rfl (by decide +kernel) ⟨by decide, by decide⟩) hK hP hD hS hA 0 11 rfl rfl rfl hl.1 rfl (Nat.le_of_ble_eq_true rfl) dX11_terms_62 ⟨by decide, by decide⟩ (fun v81 u80 H locs hw79 hP hD hS => ?_)
        obtain ⟨f82, a83, g84⟩ := u80
        have hP : va_P D vwCl (xW K r f82 a83 g84) H := hP
        have hD : va_D A (xW K r f82 a83 g84) := hD
        refine k_top (z := 2) (hw79) ?_
        exact kI_ret (v := 2) hx hb hr hlocks rfl hK hS dX11_terms_65 (f82, a83, g84) hP hD (by simp [xT, c64, c71])
      · refine lv_aload_n hx hb dX11_terms_27 rfl (lv_at hl 0 rfl) ?_
        refine lv_iconst (v := (-1)) hx hb dX11_terms_28 (by decide) ?_
        refine kI.callW (As := [.int (-1)]) (rest := []) ⟨hx, hb, hml, hown, hg⟩ (x_refuse1 l r f a g  ) (cwV 1 hg (kgV wt3_7 wt3_9 wp1_0 wt1_1 wt3_10) rfl rfl rfl (by decide +kernel) ⟨by decide, by decide⟩) hK hP hD hS hA 0 11 rfl rfl rfl hl.1 rfl (Nat.le_of_ble_eq_true rfl) dX11_terms_29 ⟨by decide, by decide⟩ (fun v87 u86 H locs hw85 hP hD hS => ?_)
        obtain ⟨f88, a89, g90⟩ := u86
        have hP : va_P D vwCl (xW K r f88 a89 g90) H := hP
        have hD : va_D A (xW K r f88 a89 g90) := hD
        refine k_top (z := (-1)) (hw85) ?_
        exact kI_ret (v := (-1)) hx hb hr hlocks rfl hK hS dX11_terms_32 (f88, a89, g90) hP hD (by simp [xT, c64, c71])
  by_cases q91 : x = 3
  · subst q91
    have hl : lv_has ls 4 [(0, .ref (r 0)), (1, .int 3), (2, .int y)] := hl
    refine lv_iload_n hx hb dX11_terms_0 rfl (lv_at hl 1 rfl) ?_
    refine lv_if_lt (tgt := 27) hx hb dX11_terms_1 (by decide) (fun c92 => absurd c92 (by decide +kernel)) (fun c92 => ?_)
    refine lv_iload_n hx hb dX11_terms_4 rfl (lv_at hl 1 rfl) ?_
    refine lv_iconst (v := 4) hx hb dX11_terms_5 (by decide) ?_
    refine lv_icmp_ge (tgt := 27) hx hb dX11_terms_6 (by decide) (fun c93 => absurd c93 (by decide +kernel)) (fun c93 => ?_)
    refine lv_iload_n hx hb dX11_terms_9 rfl (lv_at hl 2 rfl) ?_
    refine va_gets hx hb hz1 hS hown (hg _ wt3_117) (fun _ h => h) dX11_terms_10 ?_
    refine lv_iload_n hx hb dX11_terms_13 rfl (lv_at hl 1 rfl) ?_
    refine va_ti (v := .int 0) hx hb hT1 hS (k_in (by decide +kernel)) (by decide +kernel) dX11_terms_14 ?_
    refine lv_icmp_lt (tgt := 27) hx hb dX11_terms_15 (by decide) (fun c94 => ?_) (fun c94 => ?_)
    · refine lv_aload_n hx hb dX11_terms_27 rfl (lv_at hl 0 rfl) ?_
      refine lv_iconst (v := (-1)) hx hb dX11_terms_28 (by decide) ?_
      refine kI.callW (As := [.int (-1)]) (rest := []) ⟨hx, hb, hml, hown, hg⟩ (x_refuse1 l r f a g  ) (cwV 1 hg (kgV wt3_7 wt3_9 wp1_0 wt1_1 wt3_10) rfl rfl rfl (by decide +kernel) ⟨by decide, by decide⟩) hK hP hD hS hA 0 11 rfl rfl rfl hl.1 rfl (Nat.le_of_ble_eq_true rfl) dX11_terms_29 ⟨by decide, by decide⟩ (fun v97 u96 H locs hw95 hP hD hS => ?_)
      obtain ⟨f98, a99, g100⟩ := u96
      have hP : va_P D vwCl (xW K r f98 a99 g100) H := hP
      have hD : va_D A (xW K r f98 a99 g100) := hD
      refine k_top (z := (-1)) (hw95) ?_
      exact kI_ret (v := (-1)) hx hb hr hlocks rfl hK hS dX11_terms_32 (f98, a99, g100) hP hD (by simp [xT, c94])
    · refine lv_iload_n hx hb dX11_terms_18 rfl (lv_at hl 2 rfl) ?_
      refine va_gets hx hb hz2 hS hown (hg _ wt3_119) (fun _ h => h) dX11_terms_19 ?_
      refine lv_iload_n hx hb dX11_terms_22 rfl (lv_at hl 1 rfl) ?_
      refine va_ti (v := .int 9) hx hb hT2 hS (k_in (by decide +kernel)) (by decide +kernel) dX11_terms_23 ?_
      refine lv_icmp_le (tgt := 33) hx hb dX11_terms_24 (by decide) (fun c101 => ?_) (fun c101 => ?_)
      · refine lv_aload_n hx hb dX11_terms_33 rfl (lv_at hl 0 rfl) ?_
        refine va_get (D := D) (ci := 11) (v := .ref (r 1)) (C := RX11) (T := TX11) (N := 17) hx hb hg inC11 hown hK hP 0 rfl rfl 0 (by decide) (hg _ wt2_186) (fun _ h9 => h9) rfl dX11_terms_34 ?_
        refine va_get (D := D) (ci := 7) (v := .ref (r 11)) (C := RX7) (T := TX7) (N := 20) hx hb hg inC7 hown hK hP 1 rfl rfl 11 (by decide) (hg _ wt1_134) (fun _ h9 => h9) rfl dX11_terms_37 ?_
        refine lv_iload_n hx hb dX11_terms_40 rfl (lv_at hl 1 rfl) ?_
        refine va_iald hx hb hK hP 11 0 rfl rfl (k_in (by decide +kernel)) dX11_terms_41 ?_
        refine k_top (z := 0) (by rw [cl_3]; exact h3) ?_
        refine lv_istore_n (lv' := [(3, .int 0), (0, .ref (r 0)), (1, .int 3), (2, .int y)]) hx hb dX11_terms_42 rfl hl (by decide) rfl (fun ls hl => ?_)
        refine lv_aload_n hx hb dX11_terms_43 rfl (lv_at hl 1 rfl) ?_
        refine va_get (D := D) (ci := 11) (v := .ref (r 1)) (C := RX11) (T := TX11) (N := 17) hx hb hg inC11 hown hK hP 0 rfl rfl 0 (by decide) (hg _ wt2_186) (fun _ h9 => h9) rfl dX11_terms_44 ?_
        refine va_get (D := D) (ci := 7) (v := .ref (r 11)) (C := RX7) (T := TX7) (N := 20) hx hb hg inC7 hown hK hP 1 rfl rfl 11 (by decide) (hg _ wt1_134) (fun _ h9 => h9) rfl dX11_terms_47 ?_
        refine lv_iload_n hx hb dX11_terms_50 rfl (lv_at hl 2 rfl) ?_
        refine lv_iload_n hx hb dX11_terms_51 rfl (lv_at hl 3 rfl) ?_
        refine va_iast hx hb hK hP hD hS 11 0 rfl rfl (k_in (by decide +kernel)) dX11_terms_52 (fun H locs hP hD hS => ?_)
        rw [cl_3] at hP hD
        have hP : va_P D vwCl (xW K r f (va_up a 11 (upd (a 11) 3 y)) g) H := hP
        have hD : va_D A (xW K r f (va_up a 11 (upd (a 11) 3 y)) g) := hD
        refine k_gen (P := fun z => va_P D vwCl (xW K r f z g) H ∧ va_D A (xW K r f z g)) (va_up a 11 (upd (a 11) 3 y)) ⟨hP, hD⟩ (fun a_102 ea_102 hPD => ?_)
        have hP := hPD.1
        have hD := hPD.2
        refine lv_aload_n hx hb dX11_terms_53 rfl (lv_at hl 1 rfl) ?_
        refine va_get (D := D) (ci := 11) (v := .ref (r 22)) (C := RX11) (T := TX11) (N := 17) hx hb hg inC11 hown hK hP 0 rfl rfl 1 (by decide) (hg _ wt2_187) (fun _ h9 => h9) rfl dX11_terms_54 ?_
        refine kV.callW (As := []) (rest := []) ⟨hx, hb, hml, hown, hg⟩ (x_pastClear l r f a_102 g  ) (cwV 0 hg (kgV wt3_11 wt3_12 wt3_13 wt1_4 wt3_14) rfl rfl rfl (by decide +kernel) ⟨by decide, by decide⟩) hK hP hD hS hA 22 2 rfl rfl rfl hl.1 rfl (Nat.le_of_ble_eq_true rfl) dX11_terms_57 ⟨by decide, by decide⟩ (fun u104 H locs hw103 hP hD hS => ?_)
        obtain ⟨f106, a107, g108⟩ := u104
        have hP : va_P D vwCl (xW K r f106 a107 g108) H := hP
        have hD : va_D A (xW K r f106 a107 g108) := hD
        refine lv_aload_n hx hb dX11_terms_60 rfl (lv_at hl 1 rfl) ?_
        refine lv_iload_n hx hb dX11_terms_61 rfl (lv_at hl 0 rfl) ?_
        refine kI.callW (As := [.int 0]) (rest := []) ⟨hx, hb, hml, hown, hg⟩ (x_agreeChanged l r f106 a107 g108  0) (cwV 1 hg (kgV wt3_15 wt3_17 wp1_1 wt1_1 wt3_18) rfl rfl rfl (by decide +kernel) ⟨by decide, by decide⟩) hK hP hD hS hA 0 11 rfl rfl rfl hl.1 rfl (Nat.le_of_ble_eq_true rfl) dX11_terms_62 ⟨by decide, by decide⟩ (fun v111 u110 H locs hw109 hP hD hS => ?_)
        obtain ⟨f112, a113, g114⟩ := u110
        have hP : va_P D vwCl (xW K r f112 a113 g114) H := hP
        have hD : va_D A (xW K r f112 a113 g114) := hD
        refine k_top (z := 0) (hw109) ?_
        exact kI_ret (v := 0) hx hb hr hlocks rfl hK hS dX11_terms_65 (f112, a113, g114) hP hD (by simp [xT, c94, c101])
      · refine lv_aload_n hx hb dX11_terms_27 rfl (lv_at hl 0 rfl) ?_
        refine lv_iconst (v := (-1)) hx hb dX11_terms_28 (by decide) ?_
        refine kI.callW (As := [.int (-1)]) (rest := []) ⟨hx, hb, hml, hown, hg⟩ (x_refuse1 l r f a g  ) (cwV 1 hg (kgV wt3_7 wt3_9 wp1_0 wt1_1 wt3_10) rfl rfl rfl (by decide +kernel) ⟨by decide, by decide⟩) hK hP hD hS hA 0 11 rfl rfl rfl hl.1 rfl (Nat.le_of_ble_eq_true rfl) dX11_terms_29 ⟨by decide, by decide⟩ (fun v117 u116 H locs hw115 hP hD hS => ?_)
        obtain ⟨f118, a119, g120⟩ := u116
        have hP : va_P D vwCl (xW K r f118 a119 g120) H := hP
        have hD : va_D A (xW K r f118 a119 g120) := hD
        refine k_top (z := (-1)) (hw115) ?_
        exact kI_ret (v := (-1)) hx hb hr hlocks rfl hK hS dX11_terms_32 (f118, a119, g120) hP hD (by simp [xT, c94, c101])
  refine lv_iload_n hx hb dX11_terms_0 rfl (lv_at hl 1 rfl) ?_
  refine lv_if_lt (tgt := 27) hx hb dX11_terms_1 (by decide) (fun c121 => ?_) (fun c121 => ?_)
  · refine lv_aload_n hx hb dX11_terms_27 rfl (lv_at hl 0 rfl) ?_
    refine lv_iconst (v := (-1)) hx hb dX11_terms_28 (by decide) ?_
    refine kI.callW (As := [.int (-1)]) (rest := []) ⟨hx, hb, hml, hown, hg⟩ (x_refuse1 l r f a g  ) (cwV 1 hg (kgV wt3_7 wt3_9 wp1_0 wt1_1 wt3_10) rfl rfl rfl (by decide +kernel) ⟨by decide, by decide⟩) hK hP hD hS hA 0 11 rfl rfl rfl hl.1 rfl (Nat.le_of_ble_eq_true rfl) dX11_terms_29 ⟨by decide, by decide⟩ (fun v124 u123 H locs hw122 hP hD hS => ?_)
    obtain ⟨f125, a126, g127⟩ := u123
    have hP : va_P D vwCl (xW K r f125 a126 g127) H := hP
    have hD : va_D A (xW K r f125 a126 g127) := hD
    refine k_top (z := (-1)) (hw122) ?_
    exact kI_ret (v := (-1)) hx hb hr hlocks rfl hK hS dX11_terms_32 (f125, a126, g127) hP hD (by simp [xT, q1, q31, q61, q91, c121])
  · refine lv_iload_n hx hb dX11_terms_4 rfl (lv_at hl 1 rfl) ?_
    refine lv_iconst (v := 4) hx hb dX11_terms_5 (by decide) ?_
    refine lv_icmp_ge (tgt := 27) hx hb dX11_terms_6 (by decide) (fun c128 => ?_) (fun c128 => absurd (xge4 q1 q31 q61 q91 c121) c128)
    refine lv_aload_n hx hb dX11_terms_27 rfl (lv_at hl 0 rfl) ?_
    refine lv_iconst (v := (-1)) hx hb dX11_terms_28 (by decide) ?_
    refine kI.callW (As := [.int (-1)]) (rest := []) ⟨hx, hb, hml, hown, hg⟩ (x_refuse1 l r f a g  ) (cwV 1 hg (kgV wt3_7 wt3_9 wp1_0 wt1_1 wt3_10) rfl rfl rfl (by decide +kernel) ⟨by decide, by decide⟩) hK hP hD hS hA 0 11 rfl rfl rfl hl.1 rfl (Nat.le_of_ble_eq_true rfl) dX11_terms_29 ⟨by decide, by decide⟩ (fun v131 u130 H locs hw129 hP hD hS => ?_)
    obtain ⟨f132, a133, g134⟩ := u130
    have hP : va_P D vwCl (xW K r f132 a133 g134) H := hP
    have hD : va_D A (xW K r f132 a133 g134) := hD
    refine k_top (z := (-1)) (hw129) ?_
    exact kI_ret (v := (-1)) hx hb hr hlocks rfl hK hS dX11_terms_32 (f132, a133, g134) hP hD (by simp [xT, q1, q31, q61, q91, c121])
