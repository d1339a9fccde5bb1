-- ===== end of PART A; then your names; then what follows =====
/-! THE CLAIM OUT OF ONE WALK OF THE LAW'S BODY. Your part is whole_start (and what it stands on); all else here is the same for every law, but numbers. -/
def R_law : String := "SunriseRoofLaw"
def lw_P (b : Addr) (xs : List Int32) (args : Array Value) (s : State) : Prop := args = #[.ref b] ∧ s.IntsAt b xs ∧ xs.length ≤ 3072 ∧ (Jvm.Cond.and given_1 narrow_1).before args s = true
def lw_Q (_ : Array Value) (s : State) (o : Outcome) (t : State) : Prop := o = .returned (some (.int 1)) ∧ Framed s o t [] 600000 7302250
def lw_Z (below : List Frame) (a : Array Value) (s : State) : State → Prop := fun t => ∃ o, t.status = .running ∧ Ended t below o ∧ lw_Q a s o t
/-- the law's own end, with 1 on the stack, nothing written that was there before, its room as the claim has it -/
theorem lw_ret {p : Program} {l : Launch} {e : Env} {s : State} {m : MethodId} {below : List Frame} {meth : Method} {c : Code} {b : Nat} (hx : p.tables.exec = Jvm.exec) (hb : c.code = code) (hr : meth.sig.returnType = ret) (hlocks : meth.locks = false) {pc : Nat} {H : Heap} {ls : Array Slot} (hdg : decode code pc = .ok (.ireturn, 1)) : W p l e room_1 s m #[Value.ref b] below meth c H [] 600000 7302250 (lw_Z below #[Value.ref b] s) (F0 m pc ls [.int 1]) := by
  intro T hT X
  obtain ⟨fs, hret, hrun, hended, hW, hframe⟩ := X.leave (v := some (.int 1)) (hlocks := hlocks) (fun h => by rw [hr] at h; cases h)
  have hmeth' : T.vm.method? m = some meth := X.method'
  refine ⟨T.setFrames fs, ?_, .returned (some (.int 1)), hrun, hended, rfl, ⟨_, rfl⟩, hW, hframe⟩
  jvm_step X.here [X.here.top, hx, hb, hdg, hmeth', hr, ret, narrow_b1]
  (try refine ⟨rfl, ?_⟩); (try refine ⟨rfl, ?_⟩)
  first | (intro acts; rw [hret _ acts rfl rfl rfl]) | rw [hret _ _ rfl rfl rfl]
  exact Steps.refl _
/-- what holds at the law's entry: the machine, the code, the tables' words (any of lw_tbl by 'hts w (by decide +kernel)'), the script of L ints xs at the cell b, what the Statement gives of the start (any of its parts by flat_of_before) -/
def lw_At (p : Program) (s : State) (m : MethodId) (meth : Method) (c : Code) (b L : Nat) (xs : Nat → Int32) : Prop :=
  p.tables.exec = Jvm.exec ∧ c.code = code ∧ meth.sig.returnType = ret ∧ c.maxLocals = 4 ∧ s.vm.findClass R_law = some m.cls ∧ (∀ w ∈ lw_tbl, w.before #[Value.ref b] s = true) ∧ va_X b L xs s s.heap ∧ b < s.heap.size ∧ meth.locks = false ∧ (Jvm.Cond.and given_1 narrow_1).before #[Value.ref b] s = true

theorem lm1 {w : Cond} (i : Nat) (h : tables_1_1[i]? = some w) : w ∈ lw_tbl := (have h := List.mem_of_getElem? h; show w ∈ k2_sels lw_privs ++ tables_1 from List.mem_append_right _ (List.mem_append_left _ h))
theorem lm2 {w : Cond} (i : Nat) (h : tables_1_2[i]? = some w) : w ∈ lw_tbl := (have h := List.mem_of_getElem? h; show w ∈ k2_sels lw_privs ++ tables_1 from List.mem_append_right _ (List.mem_append_right _ (List.mem_append_left _ h)))
theorem lm3 {w : Cond} (i : Nat) (h : tables_1_3[i]? = some w) : w ∈ lw_tbl := (have h := List.mem_of_getElem? h; show w ∈ k2_sels lw_privs ++ tables_1 from List.mem_append_right _ (List.mem_append_right _ (List.mem_append_right _ (List.mem_append_left _ h))))
theorem arr_of {args : Array Value} {s : State} {ty : FieldType} (h : (Cond.arrayClass ty).before args s = true) : ∃ cA : ClassId, ArrOfT s cA ty ∧ s.vm.findClass ("[" ++ ty.toString) = some cA := by
  simp only [Cond.before, Cond.holds, Cond.value] at h
  cases hf : s.vm.findClass ("[" ++ ty.toString) with
  | none => simp [hf] at h
  | some cA =>
    cases hk : s.vm.classes[cA]? with
    | none => simp [hf, hk] at h
    | some k =>
      cases hkind : k.kind with
      | array comp t =>
        simp [hf, hk, hkind] at h
        subst h
        exact ⟨cA, fun n z => ⟨(fun k h => by cases h), k, hk, comp, hkind⟩, rfl⟩
      | _ => simp [hf, hk, hkind] at h
theorem arrq_of {s : State} {C : String} (h : va_AO C s) : ∃ cA : ClassId, ArrOfT s cA (.object C) ∧ va_RA s cA (.object C) := by
  obtain ⟨comp, c, k, h1, h2, h3, h4, h5⟩ := Cond.arrayOver_spec h
  exact ⟨c, fun n z => ⟨(fun k h => by cases h), k, h3, comp, h4⟩, k, comp, h3, h4, h1, h5⟩
/-- a static row of four ints -/
theorem row_of {args : Array Value} {s : State} {n : String} (v0 v1 v2 v3 : Int32) {A : Nat → Prop} (hl : (Cond.laysStatic "SunriseRoof" n "[I").before args s = true) (hini : (Cond.initialized "SunriseRoof").before args s = true)
    (harr : (Cond.arrayOf (.static "SunriseRoof" n "[I") .int).before args s = true) (hlen : (Cond.eq (.length (.static "SunriseRoof" n "[I")) (.int 4)).before args s = true)
    (h0 : (Cond.eq (.elem (.static "SunriseRoof" n "[I") (.int 0)) (.int v0)).before args s = true) (h1 : (Cond.eq (.elem (.static "SunriseRoof" n "[I") (.int 1)) (.int v1)).before args s = true) (h2 : (Cond.eq (.elem (.static "SunriseRoof" n "[I") (.int 2)) (.int v2)).before args s = true) (h3 : (Cond.eq (.elem (.static "SunriseRoof" n "[I") (.int 3)) (.int v3)).before args s = true)
    (hA : ∀ a : Nat, a < s.heap.size → ¬ A a) : ∃ t : Nat, (Term.static "SunriseRoof" n "[I").eval args s none [] s = some (.ref t) ∧ va_Z "SunriseRoof" n "[I" (.ref t) A s s.heap ∧ va_T .int t 4 (fun j => .int ([v0, v1, v2, v3].getD j 0)) A s s.heap := by
  obtain ⟨t, ht, hT⟩ := va_Tof (N := 4) (f := fun j => .int ([v0, v1, v2, v3].getD j 0)) (A := A) (by decide) harr (va_eqt hlen) (fun j hj => by
    match j, hj with
    | 0, _ => exact va_eqt h0
    | 1, _ => exact va_eqt h1
    | 2, _ => exact va_eqt h2
    | 3, _ => exact va_eqt h3
    | j + 4, hj => exact absurd hj (by omega)) hA
  exact ⟨t, ht, va_Zof hl hini ht hA, hT⟩
theorem len_lt {args : Array Value} {s : State} {tm : Term} {v : Value} {t : Nat} {cell : Cell} (hlen : (Term.length tm).eval args s none [] s = some v) (ht : tm.eval args s none [] s = some (.ref t)) (hat : s.arrayAt? t = some cell) : cell.slots.size < 2 ^ 31 := by
  simp only [Term.eval, ht, hat, Option.bind_eq_bind, Option.bind_some] at hlen
  by_cases hlt : cell.slots.size < 2147483648
  · exact hlt
  · simp [hlt] at hlen
theorem four {a : Array Value} {v0 v1 v2 v3 : Value} (hs : a.size = 4) (h0 : a[0]? = some v0) (h1 : a[1]? = some v1) (h2 : a[2]? = some v2) (h3 : a[3]? = some v3) : a = #[v0, v1, v2, v3] := by
  apply Array.ext_getElem?
  intro i
  match i with
  | 0 => exact h0
  | 1 => exact h1
  | 2 => exact h2
  | 3 => exact h3
  | i + 4 => rw [Array.getElem?_eq_none (by omega), Array.getElem?_eq_none (by simp)]
set_option maxHeartbeats 4000000 in
set_option maxRecDepth 100000 in
/-- what the law's start gives: the classes, the rows, the links, the static rows -/
theorem lw_env {p : Program} {s : State} {m : MethodId} {meth : Method} {c : Code} {b L : Nat} {xs : Nat → Int32} (C0 : lw_At p s m meth c b L xs) : ∃ (D : va_G) (K : Nat → ClassId), va_K D vwCl (tysK K) s ∧ kE K (fun q : Nat => s.heap.size ≤ q) s s.heap ∧ kT (fun q : Nat => s.heap.size ≤ q) s s.heap := by
  obtain ⟨hx, hb, hr, hml, hown, hts, hX, hbl, hlocks, hgv⟩ := C0
  have hs := flat_of_before _ hgv
  have hA : ∀ a : Nat, a < s.heap.size → ¬ (fun q : Nat => s.heap.size ≤ q) a := fun a h q => absurd h (Nat.not_lt.mpr q)
  obtain ⟨c0, iS0, hn0⟩ := u_known (C := RX0) (T := TX0) (N := 2) (n := 2) hts (fun w h => kG_in w (inC0 w h)) (hts (.instantiable RX0 2) (kG_in _ wt1_217))
  obtain ⟨c1, iS1, hn1⟩ := u_known (C := RX1) (T := TX1) (N := 5) (n := 5) hts (fun w h => kG_in w (inC1 w h)) (hts (.instantiable RX1 5) (kG_in _ wt2_164))
  obtain ⟨c2, iS2, hn2⟩ := u_known (C := RX2) (T := TX2) (N := 3) (n := 3) hts (fun w h => kG_in w (inC2 w h)) (hts (.instantiable RX2 3) (kG_in _ wt1_200))
  obtain ⟨c3, iS3, hn3⟩ := u_known (C := RX3) (T := TX3) (N := 4) (n := 4) hts (fun w h => kG_in w (inC3 w h)) (hts (.instantiable RX3 4) (kG_in _ wt2_88))
  obtain ⟨c4, iS4, hn4⟩ := u_known (C := RX4) (T := TX4) (N := 7) (n := 7) hts (fun w h => kG_in w (inC4 w h)) (hts (.instantiable RX4 7) (kG_in _ wt2_26))
  obtain ⟨c5, iS5, hn5⟩ := u_known (C := RX5) (T := TX5) (N := 8) (n := 8) hts (fun w h => kG_in w (inC5 w h)) (hts (.instantiable RX5 8) (kG_in _ wt1_230))
  obtain ⟨c6, iS6, hn6⟩ := u_known (C := RX6) (T := TX6) (N := 3) (n := 3) hts (fun w h => kG_in w (inC6 w h)) (hts (.instantiable RX6 3) (kG_in _ wt2_148))
  obtain ⟨c7, iS7, hn7⟩ := u_known (C := RX7) (T := TX7) (N := 20) (n := 20) hts (fun w h => kG_in w (inC7 w h)) (hts (.instantiable RX7 20) (kG_in _ wt1_31))
  obtain ⟨c8, iS8, hn8⟩ := u_known (C := RX8) (T := TX8) (N := 5) (n := 5) hts (fun w h => kG_in w (inC8 w h)) (hts (.instantiable RX8 5) (kG_in _ wt1_48))
  obtain ⟨c9, iS9, hn9⟩ := u_known (C := RX9) (T := TX9) (N := 10) (n := 10) hts (fun w h => kG_in w (inC9 w h)) (hts (.instantiable RX9 10) (kG_in _ wt2_110))
  obtain ⟨c10, iS10, hn10⟩ := u_known (C := RX10) (T := TX10) (N := 6) (n := 6) hts (fun w h => kG_in w (inC10 w h)) (hts (.instantiable RX10 6) (kG_in _ wt2_32))
  obtain ⟨c11, iS11, hn11⟩ := u_known (C := RX11) (T := TX11) (N := 17) (n := 17) hts (fun w h => kG_in w (inC11 w h)) (hts (.instantiable RX11 17) (kG_in _ wt1_23))
  obtain ⟨c12, iS12, hn12⟩ := u_known (C := RX12) (T := TX12) (N := 48) (n := 48) hts (fun w h => kG_in w (inC12 w h)) (hts (.instantiable RX12 48) (kG_in _ wt5_155))
  obtain ⟨cI, hcI1, hcI2⟩ := arr_of (hts (.arrayClass .int) (kG_in _ wt1_77))
  obtain ⟨cB, hcB1, hcB2⟩ := arr_of (hts (.arrayClass .byte) (kG_in _ wt2_238))
  obtain ⟨cZ, hcZ1, hcZ2⟩ := arr_of (hts (.arrayClass .boolean) (kG_in _ wt2_146))
  obtain ⟨cJ, hcJ1, hcJ2⟩ := arr_of (hts (.arrayClass .long) (kG_in _ wt1_78))
  have hao4 : va_AO "SunriseRoof$Site" s := va_AO.of (hts _ (lm2 185 rfl))
  have hao5 : va_AO "SunriseRoof$Text" s := va_AO.of (hts _ (lm1 46 rfl))
  obtain ⟨cS, hcS1, hcS2⟩ := arrq_of hao4
  obtain ⟨cT, hcT1, hcT2⟩ := arrq_of hao5
  refine ⟨(fun k => [c0, c1, c2, c3, c4, c5, c6, c7, c8, c9, c10, c11, c12].getD k 0, fun k => [iS0, iS1, iS2, iS3, iS4, iS5, iS6, iS7, iS8, iS9, iS10, iS11, iS12].getD k (fun _ => 0)), fun k => [cI, cB, cZ, cJ, cS, cT].getD k 0, ⟨?_, ?_⟩, ?_, ?_⟩
  · intro k q hq
    match k, hq with
    | 0, hq => cases hq; exact hn0
    | 1, hq => cases hq; exact hn1
    | 2, hq => cases hq; exact hn2
    | 3, hq => cases hq; exact hn3
    | 4, hq => cases hq; exact hn4
    | 5, hq => cases hq; exact hn5
    | 6, hq => cases hq; exact hn6
    | 7, hq => cases hq; exact hn7
    | 8, hq => cases hq; exact hn8
    | 9, hq => cases hq; exact hn9
    | 10, hq => cases hq; exact hn10
    | 11, hq => cases hq; exact hn11
    | 12, hq => cases hq; exact hn12
    | k + 13, hq => exact absurd hq (by simp [vwCl])
  · intro k q hq
    match k, hq with
    | 0, hq => cases hq; exact ⟨hcI1, hcI2⟩
    | 1, hq => cases hq; exact ⟨hcB1, hcB2⟩
    | 2, hq => cases hq; exact ⟨hcZ1, hcZ2⟩
    | 3, hq => cases hq; exact ⟨hcJ1, hcJ2⟩
    | 4, hq => cases hq; exact ⟨hcS1, hcS2⟩
    | 5, hq => cases hq; exact ⟨hcT1, hcT2⟩
    | k + 6, hq => exact absurd hq (by simp)
  · refine ⟨?_, va_Nw.of rfl (hts _ (lm1 36 rfl)), va_Nw.of rfl (hts _ (lm1 43 rfl)), hao4, hao5, ?_⟩
    · intro q hq
      simp only [kNM, List.mem_cons, List.not_mem_nil, or_false] at hq
      rcases hq with rfl | rfl | rfl | rfl | rfl | rfl | rfl
      · exact va_Nw.of rfl (hts _ (lm1 32 rfl))
      · exact va_Nw.of rfl (hts _ (lm1 201 rfl))
      · exact va_Nw.of rfl (hts _ (lm2 27 rfl))
      · exact va_Nw.of rfl (hts _ (lm1 49 rfl))
      · exact va_Nw.of rfl (hts _ (lm1 236 rfl))
      · exact va_Nw.of rfl (hts _ (lm1 238 rfl))
      · exact va_Nw.of rfl (hts _ (lm2 94 rfl))
    · obtain ⟨t, ht, hz, hT⟩ := row_of (n := "TERM_FIRST") 0 30 2 0 (hts _ (lm1 37 rfl)) (hts (.initialized RX11) (kG_in _ wt1_1)) (hs _ (by decide +kernel)) (hs _ (by decide +kernel)) (hs _ (by decide +kernel)) (hs _ (by decide +kernel)) (hs _ (by decide +kernel)) (hs _ (by decide +kernel)) hA
      have hlen : (Term.length (.static "SunriseRoof" "TERM_FIRST" "[I")).eval #[Value.ref b] s none [] s = some (.int 4) := va_eqt (hs _ (by decide +kernel))
      obtain ⟨cell, g1, g2, g3, g4, g5, g6, g7⟩ := hT
      obtain ⟨t2, cell2, k1, k2, k3⟩ := Term.length_spec hlen
      cases ht.symm.trans k1
      have k4 := (State.arrayAt?_spec k2).1
      cases g1.symm.trans k4
      have hsz : cell.slots.size < 2 ^ 31 := len_lt hlen k1 k2
      have hs4 : cell.slots.size = 4 := by
        have q1 : nI cell.slots.size = nI 4 := g5
        exact (nI_eq hsz (by decide)).mp q1
      obtain ⟨t3, c3, cell3, kk3, r1, r2, r3, r4, r5, r6, -⟩ := Cond.exactly_spec (hs (Jvm.Cond.exactly (Jvm.Term.static "SunriseRoof" "TERM_FIRST" "[I") "[I") (by decide +kernel))
      cases ht.symm.trans r1
      cases g1.symm.trans r3
      have hcI : s.vm.findClass "[I" = some cI := va_nm_int hcI2
      cases hcI.symm.trans r2
      exact ⟨t, cell, hz, g1, g2.1, g3, r6, four hs4 (g6 0 (by decide)) (g6 1 (by decide)) (g6 2 (by decide)) (g6 3 (by decide)), g7⟩
  · obtain ⟨t1, -, hz1, hT1⟩ := row_of (n := "TERM_LEAST") 0 1 0 0 (hts _ (lm3 118 rfl)) (hts (.initialized RX11) (kG_in _ wt1_1)) (hs _ (by decide +kernel)) (hs _ (by decide +kernel)) (hs _ (by decide +kernel)) (hs _ (by decide +kernel)) (hs _ (by decide +kernel)) (hs _ (by decide +kernel)) hA
    obtain ⟨t2, -, hz2, hT2⟩ := row_of (n := "TERM_MOST") 999 99 10 9 (hts _ (lm3 120 rfl)) (hts (.initialized RX11) (kG_in _ wt1_1)) (hs _ (by decide +kernel)) (hs _ (by decide +kernel)) (hs _ (by decide +kernel)) (hs _ (by decide +kernel)) (hs _ (by decide +kernel)) (hs _ (by decide +kernel)) hA
    obtain ⟨cl1, p11, p12, p13, p14, p15, p16, p17⟩ := hT1
    obtain ⟨cl2, p21, p22, p23, p24, p25, p26, p27⟩ := hT2
    refine ⟨t1, t2, hz1, ⟨cl1, p11, p12, p13, p14, p15, fun j hj => ?_, p17⟩, hz2, ⟨cl2, p21, p22, p23, p24, p25, fun j hj => ?_, p27⟩⟩
    · rw [p16 j hj]
      match j, hj with
      | 0, _ => rfl
      | 1, _ => rfl
      | 2, _ => rfl
      | 3, _ => rfl
      | j + 4, hj => exact absurd hj (by omega)
    · rw [p26 j hj]
      match j, hj with
      | 0, _ => rfl
      | 1, _ => rfl
      | 2, _ => rfl
      | 3, _ => rfl
      | j + 4, hj => exact absurd hj (by omega)
