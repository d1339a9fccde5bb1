/-! what the makers of the class's objects rest on beside the words: links within the nest, rows over the class's own classes, the static row TERM_FIRST -/
def tf0 : Nat → Int32 := upd (upd (fun _ => 0) 1 30) 2 2
def kTF (K : Nat → ClassId) (A : Nat → Prop) (U : State) (H : Heap) : Prop := ∃ (t : Nat) (cell : Cell), va_Z "SunriseRoof" "TERM_FIRST" "[I" (.ref t) A U H ∧ H[t]? = some cell ∧ (∀ k, cell.vm ≠ .statics k) ∧ cell.vm ≠ .unknown ∧ cell.cls = K 0 ∧ cell.slots = #[.int 0, .int 30, .int 2, .int 0] ∧ ¬ A t
def kNM : List (String × Nat × MethodName) := [(RX11, 9, yX7_init), (RX11, 18, yX2_init), (RX11, 43, yX4_init), (RX7, 83, yX8_init), (RX5, 11, yX7_init), (RX5, 20, yX2_init), (RX3, 11, yX7_init)]
def kE (K : Nat → ClassId) (A : Nat → Prop) (U : State) (H : Heap) : Prop :=
  (∀ q ∈ kNM, va_Nw (.methodLinkNest q.1 q.2.1 q.2.2 RX11) U) ∧ va_Nw (.fieldLinkNest RX7 46 "SunriseRoof" "TERM_FIRST" "[I" RX11) U ∧ va_Nw (.castable "[I" "java/lang/Cloneable") U ∧ va_AO "SunriseRoof$Site" U ∧ va_AO "SunriseRoof$Text" U ∧ kTF K A U H
theorem kE.warm {K : Nat → ClassId} {A : Nat → Prop} {s U : State} {H : Heap} (hW : s.WarmedH U.vm) (h : kE K A s H) : kE K A U H := by
  obtain ⟨h1, h2, h3, h4, h5, t, cell, hz, h6⟩ := h
  exact ⟨fun q hq => va_Nw.warmM hW (h1 q hq), va_Nw.warmF hW h2, va_Nw.warmC hW h3, va_AO.moved hW.alike h4, va_AO.moved hW.alike h5, t, cell, va_Z.moved hW.alike hz, h6⟩
theorem kE.same {K : Nat → ClassId} {A : Nat → Prop} {u U : State} {H : Heap} (hv : u.vm = U.vm) (h : kE K A u H) : kE K A U H := by
  obtain ⟨h1, h2, h3, h4, h5, t, cell, hz, h6⟩ := h
  have ha : u.vm.Alike U.vm := by rw [hv]; exact Vm.Alike.refl _
  exact ⟨fun q hq => va_Nw.same rfl hv (h1 q hq), va_Nw.same rfl hv h2, va_Nw.same rfl hv h3, va_AO.moved ha h4, va_AO.moved ha h5, t, cell, va_Z.moved ha hz, h6⟩
theorem kE.kept {K : Nat → ClassId} {A : Nat → Prop} {U : State} {H H1 : Heap} (h : kE K A U H) (hq : ∀ a : Nat, a < H.size → ¬ A a → H1[a]? = H[a]?) : kE K A U H1 := by
  obtain ⟨h1, h2, h3, h4, h5, t, cell, hz, h6, h7, h8, h9, h10, h11⟩ := h
  exact ⟨h1, h2, h3, h4, h5, t, cell, va_Z.kept hz hq, by rw [hq t (Array.getElem?_eq_some_iff.mp h6).1 h11]; exact h6, h7, h8, h9, h10, h11⟩
theorem kE.narrow {K : Nat → ClassId} {A B : Nat → Prop} {U : State} {H : Heap} (h : kE K A U H) (hAB : ∀ q, B q → A q) : kE K B U H := by
  obtain ⟨h1, h2, h3, h4, h5, t, cell, hz, h6, h7, h8, h9, h10, h11⟩ := h
  exact ⟨h1, h2, h3, h4, h5, t, cell, va_Z.narrow hz hAB, h6, h7, h8, h9, h10, fun z => h11 (hAB t z)⟩
def kVE (l : Launch) (y : MethodName) (wd : List Cond) (rm : Room) (D : va_G) (K : Nat → ClassId) (av : List Value) (ws : va_W) {S : Type} (post : S → Prop) (w2 : S → va_W) (mc ms : Nat) : Prop := ∀ sz, Met l y wd rm (va_Pc av (fun U => kPc D (tysK K) ws sz U ∧ kE K (va_A ws sz) U U.heap)) (va_Qv post (kB D (tysK K) w2 (va_A ws sz)) (va_A ws sz)) mc ms (va_A ws sz)
theorem kEblind {av : List Value} {D : va_G} {K : Nat → ClassId} {ws : va_W} {sz : Nat} : FrameBlind (va_Pc av (fun U => kPc D (tysK K) ws sz U ∧ kE K (va_A ws sz) U U.heap)) := by
  intro a U g mk h
  obtain ⟨h1, h2, h3⟩ := h
  exact ⟨h1, (kblind a U g mk ⟨h1, h2⟩).2, kE.same (u := U) rfl h3⟩
theorem kVE.of {l : Launch} {y : MethodName} {wd wd' : List Cond} {rm : Room} {D : va_G} {K : Nat → ClassId} {av : List Value} {ws : va_W} {S : Type} {w2 : S → va_W} {mc ms : Nat} {cc : ByteArray} {maxL : Nat} {ret : Option FieldType} {post : S → Prop} (hy : plainName y.cls = true) (hw : wd = Cond.code y cc maxL ret :: wd') (hlen : (lg_sl av).length ≤ maxL)
    (body : ∀ (p : Program) (e : Env) (s : State) (m : MethodId) (below : List Frame) (meth : Method) (c : Code) (A : Nat → Prop), p.tables.exec = Jvm.exec → c.code = cc → meth.sig.returnType = ret → c.maxLocals = maxL → s.vm.findClass y.cls = some m.cls → (∀ w ∈ wd, w.before av.toArray s = true) → meth.locks = false → meth.name = y.name → va_K D vwCl (tysK K) s → va_P D vwCl ws s.heap → va_D A ws → va_S A s.heap s.heap [] → (∀ q, s.heap.size ≤ q → A q) → kE K A s s.heap → ∀ ls : Array Slot, lv_has ls maxL (lv_args 0 av) → W p l e rm s m av.toArray below meth c s.heap [] 0 0 (kQv D (tysK K) post w2 A below av.toArray s mc ms) (F0 m 0 ls [])) :
    kVE l y wd rm D K av ws post w2 mc ms := by
  intro sz
  refine Met.ofW (cc := cc) (maxL := maxL) (ret := ret) hy hw ?_
  intro p e s m args below meth c s₁ B hml hv
  obtain ⟨rfl, ⟨hsz, hP, hK, hD0⟩, hE⟩ := hv
  subst hsz
  rw [lg_entry_eq]
  exact body p e s m below meth c (va_A ws s.heap.size) B.exec B.bytes B.returns hml (findClass_of_methodNamed B.named) (atoms_spec (ws := wd) B.pre) B.notSynchronized (name_of_methodNamed B.named B.method).1 hK hP hD0.self va_S.rf (fun q h => Or.inr h) hE _ (lv_entry av hlen)
section KEW
variable {p : Program} {l : Launch} {e : Env} {R : Room} {s : State} {m : MethodId} {args : Array Value} {below : List Frame} {meth : Method} {c : Code} {H : Heap} {locs : List Loc} {cells slots : Nat} {Q : State → Prop} {pc : Nat} {ls : Array Slot} {rest st0 : List Value} {cc : ByteArray}
variable {y : MethodName} {bytes : ByteArray} {maxL nL mc ms n index : Nat} {wd : List Cond} {rm : Room} {Ts : List Cond} {own host : String} {b : Addr} {e0 : va_E} {As : List Value} {D : va_G} {K : Nat → ClassId} {ws : va_W} {S : Type} {w2 : S → va_W} {A : Nat → Prop}
theorem kE.here (hE : kE K A s s.heap) (hS : va_S A s.heap H locs) : kE K A s H := hE.kept (fun a ha hn => hS.2.1 a ha hn)
theorem kEpre (hE : kE K A s s.heap) (hS : va_S A s.heap H locs) (hA : ∀ q, s.heap.size ≤ q → A q) (hK : va_K D vwCl (tysK K) s) (hPc : va_P D vwCl [(b, e0)] H) (hDc : va_D A [(b, e0)]) : ∀ U : State, U.heap = H → s.WarmedH U.vm → kPc D (tysK K) [(b, e0)] H.size U ∧ kE K (va_A [(b, e0)] H.size) U U.heap := by
  intro U hU hW
  refine ⟨⟨by rw [hU], by rw [hU]; exact hPc, va_K.moved hW.alike hK, hDc.weaken (fun _ _ _ _ => trivial)⟩, ?_⟩
  rw [hU]
  exact ((hE.here hS).narrow (kwFree hDc hS hA)).warm hW
theorem kVE.callI {post : S → Prop} (F : CallFix p m c cc nL s args Ts own) (hc : kVE l y wd rm D K (.ref b :: As) [(b, e0)] post w2 mc ms) (cw : CallB R s args own index y bytes maxL none wd rm mc ms n ∧ y.name = "<init>" ∧ (Cond.instanceMethod y).before args s = true) (hE : kE K A s s.heap) (hK : va_K D vwCl (tysK K) s) (hP : va_P D vwCl (ws ++ [(b, e0)]) H) (hD : va_D A (ws ++ [(b, e0)])) (hS : va_S A s.heap H locs) (hA : ∀ q, s.heap.size ≤ q → A q)
    (hn : As.length = n) (hsize : ls.size = nL) (hstack : st0 = As.reverse ++ .ref b :: rest) (hW : (rest.map fun v => v.category).sum ≤ 8) (hdg : decode cc pc = .ok (.invokespecial index, 3)) (hf : cells + mc ≤ R.cells ∧ slots + ms ≤ R.slots)
    (kk : ∀ (u : S) (H1 : Heap) (locs1 : List Loc), post u → va_P D vwCl (ws ++ w2 u) H1 → va_D A (ws ++ w2 u) → va_S A s.heap H1 locs1 → W p l e R s m args below meth c H1 locs1 (cells + mc) (slots + ms) Q (F0 m (pc + 3) ls rest)) : W p l e R s m args below meth c H locs cells slots Q (F0 m pc ls st0) :=
  kV.afterI hP hD hS hA (fun hPc hDc => va_runI (As := As) (rest := rest) F (hc H.size) cw ⟨kEblind, fun U hU hW => ⟨rfl, kEpre hE hS hA hK hPc hDc U hU hW⟩⟩ rfl hn hsize hstack (lv_room hW) hdg hf) kk
theorem kVE.callIN {post : S → Prop} (F : CallFix p m c cc nL s args Ts own) (hc : kVE l y wd rm D K (.ref b :: As) [(b, e0)] post w2 mc ms) (cw : va_CN R s args own index y host bytes maxL none wd rm mc ms n ∧ y.name = "<init>" ∧ (Cond.instanceMethod y).before args s = true) (hE : kE K A s s.heap) (hK : va_K D vwCl (tysK K) s) (hP : va_P D vwCl (ws ++ [(b, e0)]) H) (hD : va_D A (ws ++ [(b, e0)])) (hS : va_S A s.heap H locs) (hA : ∀ q, s.heap.size ≤ q → A q)
    (hn : As.length = n) (hsize : ls.size = nL) (hstack : st0 = As.reverse ++ .ref b :: rest) (hW : (rest.map fun v => v.category).sum ≤ 8) (hdg : decode cc pc = .ok (.invokespecial index, 3)) (hf : cells + mc ≤ R.cells ∧ slots + ms ≤ R.slots)
    (kk : ∀ (u : S) (H1 : Heap) (locs1 : List Loc), post u → va_P D vwCl (ws ++ w2 u) H1 → va_D A (ws ++ w2 u) → va_S A s.heap H1 locs1 → W p l e R s m args below meth c H1 locs1 (cells + mc) (slots + ms) Q (F0 m (pc + 3) ls rest)) : W p l e R s m args below meth c H locs cells slots Q (F0 m pc ls st0) :=
  kV.afterI hP hD hS hA (fun hPc hDc => va_runIN (As := As) (rest := rest) F (hc H.size) cw ⟨kEblind, fun U hU hW => ⟨rfl, kEpre hE hS hA hK hPc hDc U hU hW⟩⟩ rfl hn hsize hstack (lv_room hW) hdg hf) kk
theorem tf_cell (cA : ClassId) : ({ cls := cA, slots := #[.int 0, .int 30, .int 2, .int 0] } : Cell) = vp_cell cA (4, .inl tf0) := by rfl
theorem tf_fit : ∀ (i : Nat) (v : Value), (#[.int 0, .int 30, .int 2, .int 0] : Array Value)[i]? = some v → ∃ z : Int32, v = .int z := by
  intro i v h
  match i, h with
  | 0, h => exact ⟨_, (Option.some.inj h).symm⟩
  | 1, h => exact ⟨_, (Option.some.inj h).symm⟩
  | 2, h => exact ⟨_, (Option.some.inj h).symm⟩
  | 3, h => exact ⟨_, (Option.some.inj h).symm⟩
  | i + 4, h => exact absurd h (by simp)
/-- clone() of the static row -/
theorem k_cloneS (hx : p.tables.exec = Jvm.exec) (hb : c.code = cc) (hml : c.maxLocals = ls.size) (hown : s.vm.findClass own = some m.cls)
    (hlink : (Cond.methodLink own index ⟨"[I", "clone", "()Ljava/lang/Object;"⟩).before args s = true) (hsame : (Cond.sameMethod "[I" "java/lang/Object" "clone" "()Ljava/lang/Object;").before args s = true)
    (hnat : (Cond.native ⟨"java/lang/Object", "clone", "()Ljava/lang/Object;"⟩).before args s = true) (hinst : (Cond.instanceMethod ⟨"java/lang/Object", "clone", "()Ljava/lang/Object;"⟩).before args s = true)
    (hsel : (Cond.selects "[I" ⟨"[I", "clone", "()Ljava/lang/Object;"⟩ ⟨"java/lang/Object", "clone", "()Ljava/lang/Object;"⟩).before args s = true) (hcl : va_Nw (.castable "[I" "java/lang/Cloneable") s)
    (hK : va_K D vwCl (tysK K) s) (hP : va_P D vwCl ws H) (hD : va_D A ws) (hS : va_S A s.heap H locs) (hA : ∀ q, s.heap.size ≤ q → A q) {t : Nat} {cell : Cell} (hT : H[t]? = some cell) (hv1 : ∀ k, cell.vm ≠ .statics k) (hv2 : cell.vm ≠ .unknown) (hc : cell.cls = K 0) (hsl : cell.slots = #[.int 0, .int 30, .int 2, .int 0])
    (hframes : 1 ≤ R.frames) (hlocals : (rest.map fun v => v.category).sum + 14 ≤ R.locals) (hcells : cells + 1 ≤ R.cells) (hslots : slots + 4 ≤ R.slots) (hdg : decode cc pc = .ok (.invokevirtual index, 3))
    (kk : ∀ (q : Nat) (H1 : Heap), va_P D vwCl (ws ++ [(q, .inl (K 0, 4, .inl tf0))]) H1 → va_D A (ws ++ [(q, .inl (K 0, 4, .inl tf0))]) → va_S A s.heap H1 locs →
      W p l e R s m args below meth c H1 locs (cells + 1) (slots + 4) Q (F0 m (pc + 3) ls (.ref q :: rest))) : W p l e R s m args below meth c H locs cells slots Q (F0 m pc ls (.ref t :: rest)) := by
  have ht : (tysK K)[0]? = some (K 0, .int) := rfl
  have hnm : s.vm.findClass "[I" = some (K 0) := va_nm_int (hK.2 0 _ ht).2
  obtain ⟨c0, t0, f1, f2, f3⟩ := Cond.castable_spec (va_Nw.use (A := args) rfl hcl)
  cases hnm.symm.trans f1
  intro T hTh X
  obtain ⟨-, kA, hkA, comp, hkind⟩ := State.isArrayOf_alike X.warmed.alike ((hK.2 0 _ ht).1 0 (fun _ => .null))
  obtain ⟨-, kS, hkS, compS, hkindS⟩ := (hK.2 0 _ ht).1 0 (fun _ => .null)
  have hsz : cell.slots.size = 4 := by rw [hsl]; rfl
  obtain ⟨vm', X', st⟩ := X.cloneArray hx hown hlink hsame hnat hinst hsel (a := t) (cell := cell) (by rw [hTh]; exact hT) hv1 hv2 (by rw [hc]; exact hnm) f2 (by rw [hc]; exact f3)
    (fun i v hv => by
      rw [hc]
      rw [hsl] at hv
      obtain ⟨z, rfl⟩ := tf_fit i v hv
      have hk' : T.vm.classes[K 0]? = some kA := hkA
      simp [State.fitsSlot, State.slotType?, hk', hkind]
      rfl)
    (g := F0 m pc ls (.ref t :: rest)) rfl (by rw [hml]) rfl (by rw [hb]; exact hdg) hframes (by show 2 * 0 + _ + 14 ≤ _; omega) hcells (by rw [hsz]; exact hslots) (hloader := by rw [hc]; exact Vm.clonesLoader_of_array hkS hkindS)
  have hce : ({ cls := cell.cls, slots := cell.slots } : Cell) = vp_cell (K 0) (4, .inl tf0) := by rw [hc, hsl]; exact tf_cell (K 0)
  rw [hce, hsz] at X'
  rw [hce] at st
  have hH : T.heap = H := hTh
  have z1 : (H.push (vp_cell (K 0) (4, .inl tf0))).size = H.size + 1 := Array.size_push _
  have e1 : (H.push (vp_cell (K 0) (4, .inl tf0)))[H.size]? = some (vp_cell (K 0) (4, .inl tf0)) := Array.getElem?_push_size
  have o1 : ∀ q : Nat, q < H.size → (H.push (vp_cell (K 0) (4, .inl tf0)))[q]? = H[q]? := fun q hq => by rw [Array.getElem?_push, if_neg (Nat.ne_of_lt hq)]
  obtain ⟨t1, b1, b2⟩ := kk H.size (H.push (vp_cell (K 0) (4, .inl tf0))) ((hP.kept (fun k y hy => o1 y.1 ((hP k y hy).lt))).app (fun k y hy => by
      cases k with
      | zero => cases hy; exact e1
      | succ k => exact absurd hy (by simp))) (hD.push hP rfl (hA _ hS.1)) ⟨Nat.le_trans hS.1 (by omega), fun y h1 h2 => (o1 y (Nat.lt_of_lt_of_le h1 hS.1)).trans (hS.2.1 y h1 h2), hS.2.2⟩
    ((T.setVm vm').pushCell (vp_cell (K 0) (4, .inl tf0))) (by rw [← hH]; rfl) X'
  exact ⟨t1, st t1 (by rw [hH]; exact b1), b2⟩
end KEW

