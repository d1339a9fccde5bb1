/-! terms: the rows TERM_LEAST and TERM_MOST -/
def kIE (l : Launch) (y : MethodName) (wd : List Cond) (rm : Room) (D : va_G) (tys : List (ClassId × FieldType)) (E : (Nat → Prop) → State → Heap → Prop) (av : List Value) (ws : va_W) {S : Type} (post : Int32 → S → Prop) (w2 : S → va_W) (mc ms : Nat) : Prop := ∀ sz, Met l y wd rm (va_Pc av (fun U => kPc D tys ws sz U ∧ E (va_A ws sz) U U.heap)) (va_Qi post (kB D tys w2 (va_A ws sz)) (va_A ws sz)) mc ms (va_A ws sz)
theorem kIE.of {l : Launch} {y : MethodName} {wd wd' : List Cond} {rm : Room} {D : va_G} {tys : List (ClassId × FieldType)} {E : (Nat → Prop) → State → Heap → Prop} {av : List Value} {ws : va_W} {S : Type} {w2 : S → va_W} {mc ms : Nat} {cc : ByteArray} {maxL : Nat} {ret : Option FieldType} {post : Int32 → S → Prop} (hy : plainName y.cls = true) (hw : wd = Cond.code y cc maxL ret :: wd') (hlen : (lg_sl av).length ≤ maxL)
    (body : ∀ (p : Program) (e : Env) (s : State) (m : MethodId) (below : List Frame) (meth : Method) (c : Code) (A : Nat → Prop), p.tables.exec = Jvm.exec → c.code = cc → meth.sig.returnType = ret → c.maxLocals = maxL → s.vm.findClass y.cls = some m.cls → (∀ w ∈ wd, w.before av.toArray s = true) → meth.locks = false → meth.name = y.name → va_K D vwCl tys s → va_P D vwCl ws s.heap → va_D A ws → va_S A s.heap s.heap [] → (∀ q, s.heap.size ≤ q → A q) → E A s s.heap → ∀ ls : Array Slot, lv_has ls maxL (lv_args 0 av) → W p l e rm s m av.toArray below meth c s.heap [] 0 0 (kQi D tys post w2 A below av.toArray s mc ms) (F0 m 0 ls [])) :
    kIE l y wd rm D tys E av ws post w2 mc ms := by
  intro sz
  refine Met.ofW (cc := cc) (maxL := maxL) (ret := ret) hy hw ?_
  intro p e s m args below meth c s₁ B hml hv
  obtain ⟨rfl, ⟨hsz, hP, hK, hD0⟩, hE⟩ := hv
  subst hsz
  rw [lg_entry_eq]
  exact body p e s m below meth c (va_A ws s.heap.size) B.exec B.bytes B.returns hml (findClass_of_methodNamed B.named) (atoms_spec (ws := wd) B.pre) B.notSynchronized (name_of_methodNamed B.named B.method).1 hK hP hD0.self va_S.rf (fun q h => Or.inr h) hE _ (lv_entry av hlen)
def tl0 : Nat → Int32 := upd (fun _ => 0) 1 1
def tm0 : Nat → Int32 := upd (upd (upd (upd (fun _ => 0) 0 999) 1 99) 2 10) 3 9
def kT (A : Nat → Prop) (U : State) (H : Heap) : Prop := ∃ t1 t2 : Nat, va_Z "SunriseRoof" "TERM_LEAST" "[I" (.ref t1) A U H ∧ va_T .int t1 4 (fun j => .int (tl0 j)) A U H ∧ va_Z "SunriseRoof" "TERM_MOST" "[I" (.ref t2) A U H ∧ va_T .int t2 4 (fun j => .int (tm0 j)) A U H
def xT (y lo hi w : Int32) : Int32 := if y < lo then -1 else if y ≤ hi then w else -1