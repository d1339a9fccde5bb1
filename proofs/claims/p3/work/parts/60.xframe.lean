/-! the class's world, with what calls make behind it -/
def xX (K : Nat → ClassId) (r : Nat → Nat) (f : Nat → Int32) (a : Nat → Nat → Int32) (g : xG) (tx : va_W) : va_W :=
  (r 0, .inr (11, [.ref (r 1), .ref (r 22), .ref (r 24), .ref (r 25), .ref (r 50), .ref (r 58), .ref (r 80), .ref (r 87), .ref (r 89), .ref (r 92), .ref (r 93), .ref (r 94), .int (f 12), .int (f 13), .int (f 14), .int (f 15), .int (f 16)])) ::
  (r 1, .inr (7, [.int (f 32), .ref (r 2), .ref (r 3), .ref (r 4), .ref (r 5), .ref (r 6), .int (f 38), .ref (r 7), .ref (r 8), .ref (r 9), .ref (r 10), .ref (r 11), .int (f 44), .ref (r 12), .ref (r 13), .ref (r 14), .ref (r 15), .int (f 49), .int (f 50), .ref (r 16)])) ::
  (r 2, .inl (K 0, 10, .inl (a 2))) ::
  (r 3, .inl (K 0, 10, .inl (a 3))) ::
  (r 4, .inl (K 0, 10, .inl (a 4))) ::
  (r 5, .inl (K 0, 10, .inl (a 5))) ::
  (r 6, .inl (K 0, 10, .inl (a 6))) ::
  (r 7, .inl (K 0, 6, .inl (a 7))) ::
  (r 8, .inl (K 0, 6, .inl (a 8))) ::
  (r 9, .inl (K 0, 6, .inl (a 9))) ::
  (r 10, .inl (K 0, 6, .inl (a 10))) ::
  (r 11, .inl (K 0, 4, .inl (a 11))) ::
  (r 12, .inl (K 0, 8, .inl (a 12))) ::
  (r 13, .inl (K 0, 8, .inl (a 13))) ::
  (r 14, .inl (K 0, 8, .inl (a 14))) ::
  (r 15, .inl (K 5, 6, .inr (.inr (.inr (.inr (g.2 15)))))) ::
  (r 16, .inr (8, [.ref (r 17), .ref (r 18), .ref (r 19), .ref (r 20), .ref (r 21)])) ::
  (r 17, .inl (K 3, 10, .inr (.inl (g.1 17)))) ::
  (r 18, .inl (K 3, 32, .inr (.inl (g.1 18)))) ::
  (r 19, .inl (K 0, 6, .inl (a 19))) ::
  (r 20, .inl (K 0, 6, .inl (a 20))) ::
  (r 21, .inl (K 0, 10, .inl (a 21))) ::
  (r 22, .inr (2, [.int (f 704), .int (f 705), .ref (r 23)])) ::
  (r 23, .inl (K 0, 384, .inl (a 23))) ::
  (r 24, .inr (0, [.ref (r 1), .ref (r 22)])) ::
  (r 25, .inr (5, [.ref (r 1), .ref (r 22), .ref (r 24), .ref (r 26), .ref (r 47), .ref (r 49), .int (f 806), .int (f 807)])) ::
  (r 26, .inr (7, [.int (f 832), .ref (r 27), .ref (r 28), .ref (r 29), .ref (r 30), .ref (r 31), .int (f 838), .ref (r 32), .ref (r 33), .ref (r 34), .ref (r 35), .ref (r 36), .int (f 844), .ref (r 37), .ref (r 38), .ref (r 39), .ref (r 40), .int (f 849), .int (f 850), .ref (r 41)])) ::
  (r 27, .inl (K 0, 10, .inl (a 27))) ::
  (r 28, .inl (K 0, 10, .inl (a 28))) ::
  (r 29, .inl (K 0, 10, .inl (a 29))) ::
  (r 30, .inl (K 0, 10, .inl (a 30))) ::
  (r 31, .inl (K 0, 10, .inl (a 31))) ::
  (r 32, .inl (K 0, 6, .inl (a 32))) ::
  (r 33, .inl (K 0, 6, .inl (a 33))) ::
  (r 34, .inl (K 0, 6, .inl (a 34))) ::
  (r 35, .inl (K 0, 6, .inl (a 35))) ::
  (r 36, .inl (K 0, 4, .inl (a 36))) ::
  (r 37, .inl (K 0, 8, .inl (a 37))) ::
  (r 38, .inl (K 0, 8, .inl (a 38))) ::
  (r 39, .inl (K 0, 8, .inl (a 39))) ::
  (r 40, .inl (K 5, 6, .inr (.inr (.inr (.inr (g.2 40)))))) ::
  (r 41, .inr (8, [.ref (r 42), .ref (r 43), .ref (r 44), .ref (r 45), .ref (r 46)])) ::
  (r 42, .inl (K 3, 10, .inr (.inl (g.1 42)))) ::
  (r 43, .inl (K 3, 32, .inr (.inl (g.1 43)))) ::
  (r 44, .inl (K 0, 6, .inl (a 44))) ::
  (r 45, .inl (K 0, 6, .inl (a 45))) ::
  (r 46, .inl (K 0, 10, .inl (a 46))) ::
  (r 47, .inr (2, [.int (f 1504), .int (f 1505), .ref (r 48)])) ::
  (r 48, .inl (K 0, 384, .inl (a 48))) ::
  (r 49, .inl (K 3, 26, .inr (.inl (g.1 49)))) ::
  (r 50, .inr (4, [.ref (r 51), .ref (r 56), .ref (r 57), .int (f 1603), .int (f 1604), .int (f 1605), .int (f 1606)])) ::
  (r 51, .inr (10, [.int (f 1632), .ref (r 52), .ref (r 53), .ref (r 54), .ref (r 55), .int (f 1637)])) ::
  (r 52, .inl (K 0, 12, .inl (a 52))) ::
  (r 53, .inl (K 0, 12, .inl (a 53))) ::
  (r 54, .inl (K 0, 37, .inl (a 54))) ::
  (r 55, .inl (K 0, 400, .inl (a 55))) ::
  (r 56, .inl (K 0, 401, .inl (a 56))) ::
  (r 57, .inl (K 0, 401, .inl (a 57))) ::
  (r 58, .inr (3, [.ref (r 59), .ref (r 1), .int (f 1858), .int (f 1859)])) ::
  (r 59, .inr (7, [.int (f 1888), .ref (r 60), .ref (r 61), .ref (r 62), .ref (r 63), .ref (r 64), .int (f 1894), .ref (r 65), .ref (r 66), .ref (r 67), .ref (r 68), .ref (r 69), .int (f 1900), .ref (r 70), .ref (r 71), .ref (r 72), .ref (r 73), .int (f 1905), .int (f 1906), .ref (r 74)])) ::
  (r 60, .inl (K 0, 10, .inl (a 60))) ::
  (r 61, .inl (K 0, 10, .inl (a 61))) ::
  (r 62, .inl (K 0, 10, .inl (a 62))) ::
  (r 63, .inl (K 0, 10, .inl (a 63))) ::
  (r 64, .inl (K 0, 10, .inl (a 64))) ::
  (r 65, .inl (K 0, 6, .inl (a 65))) ::
  (r 66, .inl (K 0, 6, .inl (a 66))) ::
  (r 67, .inl (K 0, 6, .inl (a 67))) ::
  (r 68, .inl (K 0, 6, .inl (a 68))) ::
  (r 69, .inl (K 0, 4, .inl (a 69))) ::
  (r 70, .inl (K 0, 8, .inl (a 70))) ::
  (r 71, .inl (K 0, 8, .inl (a 71))) ::
  (r 72, .inl (K 0, 8, .inl (a 72))) ::
  (r 73, .inl (K 5, 6, .inr (.inr (.inr (.inr (g.2 73)))))) ::
  (r 74, .inr (8, [.ref (r 75), .ref (r 76), .ref (r 77), .ref (r 78), .ref (r 79)])) ::
  (r 75, .inl (K 3, 10, .inr (.inl (g.1 75)))) ::
  (r 76, .inl (K 3, 32, .inr (.inl (g.1 76)))) ::
  (r 77, .inl (K 0, 6, .inl (a 77))) ::
  (r 78, .inl (K 0, 6, .inl (a 78))) ::
  (r 79, .inl (K 0, 10, .inl (a 79))) ::
  (r 80, .inr (9, [.ref (r 1), .ref (r 58), .ref (r 81), .ref (r 82), .ref (r 83), .int (f 2565), .int (f 2566), .ref (r 84), .ref (r 85), .ref (r 86)])) ::
  (r 81, .inl (K 0, 11, .inl (a 81))) ::
  (r 82, .inl (K 0, 11, .inl (a 82))) ::
  (r 83, .inl (K 0, 704, .inl (a 83))) ::
  (r 84, .inl (K 0, 3, .inl (a 84))) ::
  (r 85, .inl (K 2, 64, .inl (a 85))) ::
  (r 86, .inl (K 0, 11, .inl (a 86))) ::
  (r 87, .inr (6, [.ref (r 1), .ref (r 88), .int (f 2786)])) ::
  (r 88, .inl (K 0, 1024, .inl (a 88))) ::
  (r 89, .inr (1, [.ref (r 58), .int (f 2849), .int (f 2850), .ref (r 90), .ref (r 91)])) ::
  (r 90, .inl (K 0, 10, .inl (a 90))) ::
  (r 91, .inl (K 0, 6, .inl (a 91))) ::
  (r 92, .inl (K 4, 2, .inr (.inr (.inr (.inr (g.2 92)))))) ::
  (r 93, .inl (K 1, 400, .inl (a 93))) ::
  (r 94, .inl (K 0, 5, .inl (a 94))) :: tx
theorem xX_app {K : Nat → ClassId} {r : Nat → Nat} {f : Nat → Int32} {a : Nat → Nat → Int32} {g : xG} {tx : va_W} : xX K r f a g tx = xX K r f a g [] ++ tx := rfl
/-! what the class's methods rest on beside the words: static rows, the row of words -/
theorem kT.same {A : Nat → Prop} {u U : State} {H : Heap} (hv : u.vm = U.vm) (h : kT A u H) : kT A U H := by
  obtain ⟨t1, t2, h1, h2, h3, h4⟩ := h
  have ha : u.vm.Alike U.vm := by rw [hv]; exact Vm.Alike.refl _
  exact ⟨t1, t2, va_Z.moved ha h1, va_T.moved ha h2, va_Z.moved ha h3, va_T.moved ha h4⟩
theorem kT.to {A B : Nat → Prop} {s U : State} {H0 H : Heap} (hW : s.WarmedH U.vm) (hk : ∀ a : Nat, a < H0.size → ¬ A a → H[a]? = H0[a]?) (hAB : ∀ q, B q → A q) (h : kT A s H0) : kT B U H := by
  obtain ⟨t1, t2, h1, h2, h3, h4⟩ := h
  exact ⟨t1, t2, ((va_Z.moved hW.alike h1).kept hk).narrow hAB, ((va_T.moved hW.alike h2).kept hk).narrow hAB, ((va_Z.moved hW.alike h3).kept hk).narrow hAB, ((va_T.moved hW.alike h4).kept hk).narrow hAB⟩
def mt0 : Nat → Int32 := upd (upd (upd (upd (fun _ => 0) 0 20) 1 20) 2 10) 3 1
def kM (A : Nat → Prop) (U : State) (H : Heap) : Prop := ∃ t : Nat, va_Z "SunriseRoof" "MOST_TOLD" "[I" (.ref t) A U H ∧ va_T .int t 4 (fun j => .int (mt0 j)) A U H ∧ va_Nw (.fieldLinkNest RX7 110 "SunriseRoof" "MOST_TOLD" "[I" RX11) U
theorem kM.same {A : Nat → Prop} {u U : State} {H : Heap} (hv : u.vm = U.vm) (h : kM A u H) : kM A U H := by
  obtain ⟨t, h1, h2, h3⟩ := h
  have ha : u.vm.Alike U.vm := by rw [hv]; exact Vm.Alike.refl _
  exact ⟨t, va_Z.moved ha h1, va_T.moved ha h2, va_Nw.same rfl hv h3⟩
theorem kM.to {A B : Nat → Prop} {s U : State} {H0 H : Heap} (hW : s.WarmedH U.vm) (hk : ∀ a : Nat, a < H0.size → ¬ A a → H[a]? = H0[a]?) (hAB : ∀ q, B q → A q) (h : kM A s H0) : kM B U H := by
  obtain ⟨t, h1, h2, h3⟩ := h
  exact ⟨t, ((va_Z.moved hW.alike h1).kept hk).narrow hAB, ((va_T.moved hW.alike h2).kept hk).narrow hAB, va_Nw.warmF hW h3⟩
def wTx : String := "or and not if works tires shows bars builder pace tired part craft heavy left with hour mood send rest throw tick to times done stood standing at "
def wBs : List Int32 := 111 :: 114 :: 32 :: 97 :: 110 :: 100 :: 32 :: 110 :: 111 :: 116 :: 32 :: 105 :: 102 :: 32 :: 119 :: 111 :: 114 :: 107 :: 115 :: 32 :: 116 :: 105 :: 114 :: 101 :: 115 :: 32 :: 115 :: 104 :: 111 :: 119 :: 115 :: 32 :: 98 :: 97 :: 114 :: 115 :: 32 :: 98 :: 117 :: 105 :: 108 :: 100 :: 101 :: 114 :: 32 :: 112 :: 97 :: 99 :: 101 :: 32 :: 116 :: 105 :: 114 :: 101 :: 100 :: 32 :: 112 :: 97 :: 114 :: 116 :: 32 :: 99 :: 114 :: 97 :: 102 :: 116 :: 32 :: 104 :: 101 :: 97 :: 118 :: 121 :: 32 :: 108 :: 101 :: 102 :: 116 :: 32 :: 119 :: 105 :: 116 :: 104 :: 32 :: 104 :: 111 :: 117 :: 114 :: 32 :: 109 :: 111 :: 111 :: 100 :: 32 :: 115 :: 101 :: 110 :: 100 :: 32 :: 114 :: 101 :: 115 :: 116 :: 32 :: 116 :: 104 :: 114 :: 111 :: 119 :: 32 :: 116 :: 105 :: 99 :: 107 :: 32 :: 116 :: 111 :: 32 :: 116 :: 105 :: 109 :: 101 :: 115 :: 32 :: 100 :: 111 :: 110 :: 101 :: 32 :: 115 :: 116 :: 111 :: 111 :: 100 :: 32 :: 115 :: 116 :: 97 :: 110 :: 100 :: 105 :: 110 :: 103 :: 32 :: 97 :: 116 :: 32 :: []
def wBy (j : Nat) : Int32 := wBs.getD j 0
def kStr (q v : Nat) (z : Option Nat) (A : Nat → Prop) (U : State) (H : Heap) : Prop := va_O "java/lang/String" q A U H ∧ va_OF "java/lang/String" "coder" "B" (.int 0) q A U H ∧ va_OF "java/lang/String" "value" "[B" (.ref v) q A U H ∧ va_T .byte v 146 (fun j => .int (wBy j)) A U H ∧ va_Z "java/lang/String" "COMPACT_STRINGS" "Z" (.int 1) A U H ∧ va_Z "jdk/internal/util/Preconditions" "SIOOBE_FORMATTER" "Ljava/util/function/BiFunction;" (va_rf z) A U H
theorem kStr.moved {q v : Nat} {z : Option Nat} {A : Nat → Prop} {u U : State} {H : Heap} (ha : u.vm.Alike U.vm) (h : kStr q v z A u H) : kStr q v z A U H := ⟨va_O.moved ha h.1, va_OF.moved ha h.2.1, va_OF.moved ha h.2.2.1, va_T.moved ha h.2.2.2.1, va_Z.moved ha h.2.2.2.2.1, va_Z.moved ha h.2.2.2.2.2⟩
theorem kStr.to {q v : Nat} {z : Option Nat} {A B : Nat → Prop} {s U : State} {H0 H : Heap} (ha : s.vm.Alike U.vm) (hk : ∀ a : Nat, a < H0.size → ¬ A a → H[a]? = H0[a]?) (hAB : ∀ q, B q → A q) (h : kStr q v z A s H0) : kStr q v z B U H := ⟨((va_O.moved ha h.1).kept hk).narrow hAB, ((va_OF.moved ha h.2.1).kept hk).narrow hAB, ((va_OF.moved ha h.2.2.1).kept hk).narrow hAB, ((va_T.moved ha h.2.2.2.1).kept hk).narrow hAB, ((va_Z.moved ha h.2.2.2.2.1).kept hk).narrow hAB, ((va_Z.moved ha h.2.2.2.2.2).kept hk).narrow hAB⟩
def kWs (A : Nat → Prop) (U : State) (H : Heap) : Prop := ∃ (q v : Nat) (z : Option Nat), vk_R RX4 93 wTx q U ∧ kStr q v z A U H
theorem kWs.same {A : Nat → Prop} {u U : State} {H : Heap} (hv : u.vm = U.vm) (h : kWs A u H) : kWs A U H := by
  obtain ⟨q, v, z, h1, h2⟩ := h
  exact ⟨q, v, z, vk_R.same hv.symm h1, h2.moved (by rw [hv]; exact Vm.Alike.refl _)⟩
theorem kWs.to {A B : Nat → Prop} {s U : State} {H0 H : Heap} (hW : s.WarmedH U.vm) (hk : ∀ a : Nat, a < H0.size → ¬ A a → H[a]? = H0[a]?) (hAB : ∀ q, B q → A q) (h : kWs A s H0) : kWs B U H := by
  obtain ⟨q, v, z, h1, h2⟩ := h
  exact ⟨q, v, z, vk_R.warm hW h1, h2.to hW.alike hk hAB⟩
def xE (K : Nat → ClassId) (A : Nat → Prop) (U : State) (H : Heap) : Prop := kE K A U H ∧ kT A U H ∧ kM A U H ∧ kWs A U H
theorem xE.same {K : Nat → ClassId} {A : Nat → Prop} {u U : State} {H : Heap} (hv : u.vm = U.vm) (h : xE K A u H) : xE K A U H := ⟨kE.same hv h.1, kT.same hv h.2.1, kM.same hv h.2.2.1, kWs.same hv h.2.2.2⟩
theorem xE.to {K : Nat → ClassId} {A B : Nat → Prop} {s U : State} {H0 H : Heap} (hW : s.WarmedH U.vm) (hk : ∀ a : Nat, a < H0.size → ¬ A a → H[a]? = H0[a]?) (hAB : ∀ q, B q → A q) (h : xE K A s H0) : xE K B U H := ⟨((h.1.kept hk).narrow hAB).warm hW, h.2.1.to hW hk hAB, h.2.2.1.to hW hk hAB, h.2.2.2.to hW hk hAB⟩
/-! contracts over the class's world -/
abbrev kIG (l : Launch) (y : MethodName) (wd : List Cond) (rm : Room) (D : va_G) (K : Nat → ClassId) (av : List Value) (ws : va_W) {S : Type} (post : Int32 → S → Prop) (w2 : S → va_W) (mc ms : Nat) : Prop := kIE l y wd rm D (tysK K) (xE K) av ws post w2 mc ms
def kVG (l : Launch) (y : MethodName) (wd : List Cond) (rm : Room) (D : va_G) (K : Nat → ClassId) (av : List Value) (ws : va_W) {S : Type} (post : S → Prop) (w2 : S → va_W) (mc ms : Nat) : Prop := ∀ sz, Met l y wd rm (va_Pc av (fun U => kPc D (tysK K) ws sz U ∧ xE K (va_A ws sz) U U.heap)) (va_Qv post (kB D (tysK K) w2 (va_A ws sz)) (va_A ws sz)) mc ms (va_A ws sz)
def kLG (l : Launch) (y : MethodName) (wd : List Cond) (rm : Room) (D : va_G) (K : Nat → ClassId) (av : List Value) (ws : va_W) {S : Type} (post : Int64 → S → Prop) (w2 : S → va_W) (mc ms : Nat) : Prop := ∀ sz, Met l y wd rm (va_Pc av (fun U => kPc D (tysK K) ws sz U ∧ xE K (va_A ws sz) U U.heap)) (va_Ql post (kB D (tysK K) w2 (va_A ws sz)) (va_A ws sz)) mc ms (va_A ws sz)
theorem kVG.of {l : Launch} {y : MethodName} {wd wd' : List Cond} {rm : Room} {D : va_G} {K : Nat → ClassId} {av : List Value} {ws : va_W} {S : Type} {w2 : S → va_W} {mc ms : Nat} {cc : ByteArray} {maxL : Nat} {ret : Option FieldType} {post : S → Prop} (hy : plainName y.cls = true) (hw : wd = Cond.code y cc maxL ret :: wd') (hlen : (lg_sl av).length ≤ maxL)
    (body : ∀ (p : Program) (e : Env) (s : State) (m : MethodId) (below : List Frame) (meth : Method) (c : Code) (A : Nat → Prop), p.tables.exec = Jvm.exec → c.code = cc → meth.sig.returnType = ret → c.maxLocals = maxL → s.vm.findClass y.cls = some m.cls → (∀ w ∈ wd, w.before av.toArray s = true) → meth.locks = false → meth.name = y.name → va_K D vwCl (tysK K) s → va_P D vwCl ws s.heap → va_D A ws → va_S A s.heap s.heap [] → (∀ q, s.heap.size ≤ q → A q) → xE K A s s.heap → ∀ ls : Array Slot, lv_has ls maxL (lv_args 0 av) → W p l e rm s m av.toArray below meth c s.heap [] 0 0 (kQv D (tysK K) post w2 A below av.toArray s mc ms) (F0 m 0 ls [])) :
    kVG l y wd rm D K av ws post w2 mc ms := by
  intro sz
  refine Met.ofW (cc := cc) (maxL := maxL) (ret := ret) hy hw ?_
  intro p e s m args below meth c s₁ B hml hv
  obtain ⟨rfl, ⟨hsz, hP, hK, hD0⟩, hE⟩ := hv
  subst hsz
  rw [lg_entry_eq]
  exact body p e s m below meth c (va_A ws s.heap.size) B.exec B.bytes B.returns hml (findClass_of_methodNamed B.named) (atoms_spec (ws := wd) B.pre) B.notSynchronized (name_of_methodNamed B.named B.method).1 hK hP hD0.self va_S.rf (fun q h => Or.inr h) hE _ (lv_entry av hlen)
theorem kLG.of {l : Launch} {y : MethodName} {wd wd' : List Cond} {rm : Room} {D : va_G} {K : Nat → ClassId} {av : List Value} {ws : va_W} {S : Type} {w2 : S → va_W} {mc ms : Nat} {cc : ByteArray} {maxL : Nat} {ret : Option FieldType} {post : Int64 → S → Prop} (hy : plainName y.cls = true) (hw : wd = Cond.code y cc maxL ret :: wd') (hlen : (lg_sl av).length ≤ maxL)
    (body : ∀ (p : Program) (e : Env) (s : State) (m : MethodId) (below : List Frame) (meth : Method) (c : Code) (A : Nat → Prop), p.tables.exec = Jvm.exec → c.code = cc → meth.sig.returnType = ret → c.maxLocals = maxL → s.vm.findClass y.cls = some m.cls → (∀ w ∈ wd, w.before av.toArray s = true) → meth.locks = false → meth.name = y.name → va_K D vwCl (tysK K) s → va_P D vwCl ws s.heap → va_D A ws → va_S A s.heap s.heap [] → (∀ q, s.heap.size ≤ q → A q) → xE K A s s.heap → ∀ ls : Array Slot, lv_has ls maxL (lv_args 0 av) → W p l e rm s m av.toArray below meth c s.heap [] 0 0 (kQl D (tysK K) post w2 A below av.toArray s mc ms) (F0 m 0 ls [])) :
    kLG l y wd rm D K av ws post w2 mc ms := by
  intro sz
  refine Met.ofW (cc := cc) (maxL := maxL) (ret := ret) hy hw ?_
  intro p e s m args below meth c s₁ B hml hv
  obtain ⟨rfl, ⟨hsz, hP, hK, hD0⟩, hE⟩ := hv
  subst hsz
  rw [lg_entry_eq]
  exact body p e s m below meth c (va_A ws s.heap.size) B.exec B.bytes B.returns hml (findClass_of_methodNamed B.named) (atoms_spec (ws := wd) B.pre) B.notSynchronized (name_of_methodNamed B.named B.method).1 hK hP hD0.self va_S.rf (fun q h => Or.inr h) hE _ (lv_entry av hlen)
theorem xblind {av : List Value} {D : va_G} {K : Nat → ClassId} {ws : va_W} {sz : Nat} : FrameBlind (va_Pc av (fun U => kPc D (tysK K) ws sz U ∧ xE K (va_A ws sz) U U.heap)) := by
  intro a U g mk h
  obtain ⟨h1, h2, h3⟩ := h
  exact ⟨h1, (kblind a U g mk ⟨h1, h2⟩).2, xE.same (u := U) rfl h3⟩
section XCALL
variable {p : Program} {l : Launch} {e : Env} {R : Room} {s : State} {m : MethodId} {args : Array Value} {below : List Frame} {meth : Method} {c : Code} {H : Heap} {locs : List Loc} {cells slots : Nat} {Q : State → Prop} {pc : Nat} {ls : Array Slot} {rest st0 : List Value} {cc : ByteArray}
variable {y : MethodName} {bytes : ByteArray} {maxL nL mc ms n index : Nat} {ret : Option FieldType} {wd : List Cond} {rm : Room} {Ts : List Cond} {own C : String} {b : Addr} {As : List Value} {D : va_G} {K : Nat → ClassId} {ws : va_W} {S : Type} {w2 : S → va_W} {A : Nat → Prop}
theorem xpre (hV : xE K A s s.heap) (hK : va_K D vwCl (tysK K) s) (hP : va_P D vwCl ws H) (hD : va_D A ws) (hS : va_S A s.heap H locs) (hA : ∀ q, s.heap.size ≤ q → A q) : ∀ U : State, U.heap = H → s.WarmedH U.vm → kPc D (tysK K) ws H.size U ∧ xE K (va_A ws H.size) U U.heap := by
  intro U hU hW
  refine ⟨⟨by rw [hU], by rw [hU]; exact hP, va_K.moved hW.alike hK, hD.weaken (fun _ _ _ _ => trivial)⟩, ?_⟩
  rw [hU]
  exact hV.to hW hS.2.1 (kwFree hD hS hA)
theorem kIG.callW {post : Int32 → S → Prop} (F : CallFix p m c cc nL s args Ts own) (hc : kIG l y wd rm D K (.ref b :: As) ws post w2 mc ms) (cw : CallW R s args own C index y bytes maxL ret wd rm mc ms n) (hV : xE K A s s.heap) (hK : va_K D vwCl (tysK K) s) (hP : va_P D vwCl ws H) (hD : va_D A ws) (hS : va_S A s.heap H locs) (hA : ∀ q, s.heap.size ≤ q → A q)
    (q0 ci : Nat) {T : u_T} {N : Nat} {fs : List Value} (hcl : vwCl[ci]? = some (C, T, N)) (he : ws[q0]? = some (b, .inr (ci, fs)))
    (hn : As.length = n) (hsize : ls.size = nL) (hstack : st0 = As.reverse ++ .ref b :: rest) (hW : (rest.map fun v => v.category).sum ≤ 8) (hdg : decode cc pc = .ok (.invokevirtual index, 3)) (hf : cells + mc ≤ R.cells ∧ slots + ms ≤ R.slots)
    (kk : ∀ (r : Int32) (u : S) (H1 : Heap) (locs1 : List Loc), post r u → va_P D vwCl (w2 u) H1 → va_D A (w2 u) → va_S A s.heap H1 locs1 → W p l e R s m args below meth c H1 locs1 (cells + mc) (slots + ms) Q (F0 m (pc + 3) ls (.int r :: rest))) : W p l e R s m args below meth c H locs cells slots Q (F0 m pc ls st0) := by
  have hFc := kwFree hD hS hA
  refine va_calli (va_runV (As := As) (rest := rest) F (hc H.size) cw ⟨xblind, va_recv hK hP hcl he, fun U hU hW => ⟨rfl, xpre hV hK hP hD hS hA U hU hW⟩⟩ rfl hn hsize hstack (lv_room hW) hdg hf) hS (fun q _ h => hFc q h) hFc (fun r u t H1 locs ht hvm hw hB hz1 hk1 hS => ?_)
  obtain ⟨hP1, hK1, hD1⟩ := hB
  rw [ht] at hP1
  exact kk r u H1 locs hw hP1 (hD1.weaken (fun k q _ h => hFc q.1 h)) hS
theorem kVG.callW {post : S → Prop} (F : CallFix p m c cc nL s args Ts own) (hc : kVG l y wd rm D K (.ref b :: As) ws post w2 mc ms) (cw : CallW R s args own C index y bytes maxL ret wd rm mc ms n) (hV : xE K A s s.heap) (hK : va_K D vwCl (tysK K) s) (hP : va_P D vwCl ws H) (hD : va_D A ws) (hS : va_S A s.heap H locs) (hA : ∀ q, s.heap.size ≤ q → A q)
    (q0 ci : Nat) {T : u_T} {N : Nat} {fs : List Value} (hcl : vwCl[ci]? = some (C, T, N)) (he : ws[q0]? = some (b, .inr (ci, fs)))
    (hn : As.length = n) (hsize : ls.size = nL) (hstack : st0 = As.reverse ++ .ref b :: rest) (hW : (rest.map fun v => v.category).sum ≤ 8) (hdg : decode cc pc = .ok (.invokevirtual index, 3)) (hf : cells + mc ≤ R.cells ∧ slots + ms ≤ R.slots)
    (kk : ∀ (u : S) (H1 : Heap) (locs1 : List Loc), post u → va_P D vwCl (w2 u) H1 → va_D A (w2 u) → va_S A s.heap H1 locs1 → W p l e R s m args below meth c H1 locs1 (cells + mc) (slots + ms) Q (F0 m (pc + 3) ls rest)) : W p l e R s m args below meth c H locs cells slots Q (F0 m pc ls st0) := by
  have hFc := kwFree hD hS hA
  refine va_callv (va_runV (As := As) (rest := rest) F (hc H.size) cw ⟨xblind, va_recv hK hP hcl he, fun U hU hW => ⟨rfl, xpre hV hK hP hD hS hA U hU hW⟩⟩ rfl hn hsize hstack (lv_room hW) hdg hf) hS (fun q _ h => hFc q h) hFc (fun u t H1 locs ht hvm hw hB hz1 hk1 hS => ?_)
  obtain ⟨hP1, hK1, hD1⟩ := hB
  rw [ht] at hP1
  exact kk u H1 locs hw hP1 (hD1.weaken (fun k q _ h => hFc q.1 h)) hS
theorem kLG.callW {post : Int64 → S → Prop} (F : CallFix p m c cc nL s args Ts own) (hc : kLG l y wd rm D K (.ref b :: As) ws post w2 mc ms) (cw : CallW R s args own C index y bytes maxL ret wd rm mc ms n) (hV : xE K A s s.heap) (hK : va_K D vwCl (tysK K) s) (hP : va_P D vwCl ws H) (hD : va_D A ws) (hS : va_S A s.heap H locs) (hA : ∀ q, s.heap.size ≤ q → A q)
    (q0 ci : Nat) {T : u_T} {N : Nat} {fs : List Value} (hcl : vwCl[ci]? = some (C, T, N)) (he : ws[q0]? = some (b, .inr (ci, fs)))
    (hn : As.length = n) (hsize : ls.size = nL) (hstack : st0 = As.reverse ++ .ref b :: rest) (hW : (rest.map fun v => v.category).sum ≤ 8) (hdg : decode cc pc = .ok (.invokevirtual index, 3)) (hf : cells + mc ≤ R.cells ∧ slots + ms ≤ R.slots)
    (kk : ∀ (r : Int64) (u : S) (H1 : Heap) (locs1 : List Loc), post r u → va_P D vwCl (w2 u) H1 → va_D A (w2 u) → va_S A s.heap H1 locs1 → W p l e R s m args below meth c H1 locs1 (cells + mc) (slots + ms) Q (F0 m (pc + 3) ls (.long r :: rest))) : W p l e R s m args below meth c H locs cells slots Q (F0 m pc ls st0) := by
  have hFc := kwFree hD hS hA
  refine va_calll (va_runV (As := As) (rest := rest) F (hc H.size) cw ⟨xblind, va_recv hK hP hcl he, fun U hU hW => ⟨rfl, xpre hV hK hP hD hS hA U hU hW⟩⟩ rfl hn hsize hstack (lv_room hW) hdg hf) hS (fun q _ h => hFc q h) hFc (fun r u t H1 locs ht hvm hw hB hz1 hk1 hS => ?_)
  obtain ⟨hP1, hK1, hD1⟩ := hB
  rw [ht] at hP1
  exact kk r u H1 locs hw hP1 (hD1.weaken (fun k q _ h => hFc q.1 h)) hS
/-- a static method over the whole world -/
theorem kIG.callS {post : Int32 → S → Prop} (F : CallFix p m c cc nL s args Ts own) (hc : kIG l y wd rm D K As ws post w2 mc ms) (cw : CallB R s args own index y bytes maxL ret wd rm mc ms n ∧ (Cond.static y).before args s = true) (hV : xE K A s s.heap) (hK : va_K D vwCl (tysK K) s) (hP : va_P D vwCl ws H) (hD : va_D A ws) (hS : va_S A s.heap H locs) (hA : ∀ q, s.heap.size ≤ q → A q)
    (hn : As.length = n) (hsize : ls.size = nL) (hstack : st0 = As.reverse ++ rest) (hW : (rest.map fun v => v.category).sum ≤ 8) (hdg : decode cc pc = .ok (.invokestatic index, 3)) (hf : cells + mc ≤ R.cells ∧ slots + ms ≤ R.slots)
    (kk : ∀ (r : Int32) (u : S) (H1 : Heap) (locs1 : List Loc), post r u → va_P D vwCl (w2 u) H1 → va_D A (w2 u) → va_S A s.heap H1 locs1 → W p l e R s m args below meth c H1 locs1 (cells + mc) (slots + ms) Q (F0 m (pc + 3) ls (.int r :: rest))) : W p l e R s m args below meth c H locs cells slots Q (F0 m pc ls st0) := by
  have hFc := kwFree hD hS hA
  refine va_calli (va_runS (As := As) (rest := rest) F (hc H.size) cw ⟨xblind, fun U hU hW => ⟨rfl, xpre hV hK hP hD hS hA U hU hW⟩⟩ rfl hn hsize hstack (lv_room hW) hdg hf) hS (fun q _ h => hFc q h) hFc (fun r u t H1 locs ht hvm hw hB hz1 hk1 hS => ?_)
  obtain ⟨hP1, hK1, hD1⟩ := hB
  rw [ht] at hP1
  exact kk r u H1 locs hw hP1 (hD1.weaken (fun k q _ h => hFc q.1 h)) hS
/-- a static method that looks at no cell, and answers a long -/
def kNL (l : Launch) (y : MethodName) (wd : List Cond) (rm : Room) (av : List Value) (post : Int64 → Prop) : Prop := Met l y wd rm (va_Pc av (fun _ => True)) (va_Ql (fun r (_ : Unit) => post r) (fun _ _ => True) (fun _ => False)) 0 0 (fun _ => False)
def kQnl (post : Int64 → Prop) (below : List Frame) (args : Array Value) (s : State) : State → Prop := MQ below (va_Ql (fun r (_ : Unit) => post r) (fun _ _ => True) (fun _ => False)) args s 0 0 (fun _ => False)
theorem kNL.of {wd' : List Cond} {av : List Value} {cc : ByteArray} {post : Int64 → Prop} (hy : plainName y.cls = true) (hw : wd = Cond.code y cc maxL ret :: wd') (hlen : (lg_sl av).length ≤ maxL)
    (body : ∀ (p : Program) (e : Env) (s : State) (m : MethodId) (below : List Frame) (meth : Method) (c : Code), p.tables.exec = Jvm.exec → c.code = cc → meth.sig.returnType = ret → c.maxLocals = maxL → s.vm.findClass y.cls = some m.cls → (∀ w ∈ wd, w.before av.toArray s = true) → meth.locks = false → va_S (fun _ => False) s.heap s.heap [] → ∀ ls : Array Slot, lv_has ls maxL (lv_args 0 av) → W p l e rm s m av.toArray below meth c s.heap [] 0 0 (kQnl post below av.toArray s) (F0 m 0 ls [])) :
    kNL l y wd rm av post := by
  refine Met.ofW (cc := cc) (maxL := maxL) (ret := ret) hy hw ?_
  intro p e s m args below meth c s₁ B hml hv
  obtain ⟨rfl, -⟩ := hv
  rw [lg_entry_eq]
  exact body p e s m below meth c B.exec B.bytes B.returns hml (findClass_of_methodNamed B.named) (atoms_spec (ws := wd) B.pre) B.notSynchronized va_S.rf _ (lv_entry av hlen)
theorem kNL_ret {post : Int64 → Prop} {v : Int64} (hx : p.tables.exec = Jvm.exec) (hb : c.code = cc) (hr : meth.sig.returnType = some .long) (hlocks : meth.locks = false) (hS : va_S (fun _ => False) s.heap H locs) (hdg : decode cc pc = .ok (.lreturn, 1)) (hpost : post v) : W p l e R s m args below meth c H locs 0 0 (kQnl post below args s) (F0 m pc ls [.long v]) :=
  W.lret hx hb hr (fun t ht hW => ⟨⟨v, (), rfl, hpost, trivial⟩, hS.F ht⟩) hS.2.2 hdg hlocks
theorem kNL.callS {post : Int64 → Prop} (F : CallFix p m c cc nL s args Ts own) (hc : kNL l y wd rm As post) (cw : CallB R s args own index y bytes maxL ret wd rm 0 0 n ∧ (Cond.static y).before args s = true) (hP : va_P D vwCl ws H) (hS : va_S A s.heap H locs)
    (hn : As.length = n) (hsize : ls.size = nL) (hstack : st0 = As.reverse ++ rest) (hW : (rest.map fun v => v.category).sum ≤ 8) (hdg : decode cc pc = .ok (.invokestatic index, 3)) (hf : cells + 0 ≤ R.cells ∧ slots + 0 ≤ R.slots)
    (kk : ∀ (r : Int64) (H1 : Heap) (locs1 : List Loc), post r → va_P D vwCl ws H1 → va_S A s.heap H1 locs1 → W p l e R s m args below meth c H1 locs1 cells slots Q (F0 m (pc + 3) ls (.long r :: rest))) : W p l e R s m args below meth c H locs cells slots Q (F0 m pc ls st0) := by
  refine va_calll (va_runS (As := As) (rest := rest) F hc cw ⟨fun a U g mk h => ⟨h.1, trivial⟩, fun U hU hW => ⟨rfl, trivial⟩⟩ rfl hn hsize hstack (lv_room hW) hdg hf) hS (fun q _ h => h.elim) (fun q h => h.elim) (fun r u t H1 locs ht hvm hw hB hz1 hk1 hS => ?_)
  refine kk r H1 locs hw (fun k q hq => ?_) hS
  exact (hP k q hq).kept (hk1 q.1 (hP k q hq).lt (fun h => h))
theorem k_tops {t : Nat} {x : Option Nat} (h : x = some t) (k : W p l e R s m args below meth c H locs cells slots Q (F0 m pc ls (.ref t :: rest))) : W p l e R s m args below meth c H locs cells slots Q (F0 m pc ls (va_rf x :: rest)) := by rw [h]; exact k
end XCALL
/-! texts that laws were read to -/
abbrev tX : Type := (Nat → Nat) × (Nat → Int32) × (Nat → Nat → Int32) × Nat
def tW (K : Nat → ClassId) (t : tX) : va_W := [(t.1 0, .inr (10, [.int (t.2.1 0), .ref (t.1 1), .ref (t.1 2), .ref (t.1 3), .ref (t.1 4), .int (t.2.1 5)])), (t.1 1, .inl (K 0, 12, .inl (t.2.2.1 1))), (t.1 2, .inl (K 0, 12, .inl (t.2.2.1 2))), (t.1 3, .inl (K 0, 37, .inl (t.2.2.1 3))), (t.1 4, .inl (K 0, t.2.2.2, .inl (t.2.2.1 4)))]
def tIn (K : Nat → ClassId) (tx : va_W) (t : tX) : Prop := t.2.2.2 ≤ 400 ∧ (∀ c ∈ tW K t, c ∈ tx) ∧ kb 0 (t.2.1 0) 12 ∧ ∀ j, kb 0 (t.2.2.1 4 j) 65535
def gOK (K : Nat → ClassId) (g2 : Nat → Nat → Option Nat) (tx : va_W) : Prop := ∀ s i, s = 15 ∨ s = 40 ∨ s = 73 ∨ s = 109 → g2 s i = none ∨ ∃ t : tX, tIn K tx t ∧ g2 s i = some (t.1 0)
theorem tIn_w {K : Nat → ClassId} {tx ty : va_W} {t : tX} (w : ∀ c ∈ tx, c ∈ ty) (h : tIn K tx t) : tIn K ty t := ⟨h.1, fun c hc => w c (h.2.1 c hc), h.2.2⟩
theorem gOK_w {K : Nat → ClassId} {g2 : Nat → Nat → Option Nat} {tx ty : va_W} (w : ∀ c ∈ tx, c ∈ ty) (h : gOK K g2 tx) : gOK K g2 ty := fun s i hs => (h s i hs).imp id (fun ⟨t, h1, h2⟩ => ⟨t, tIn_w w h1, h2⟩)
theorem tIn_at {K : Nat → ClassId} {tx : va_W} {t : tX} (h : tIn K tx t) {k : Nat} {q : Nat × va_E} (hq : (tW K t)[k]? = some q) : ∃ j : Nat, tx[j]? = some q := by
  obtain ⟨j, hj⟩ := List.getElem?_of_mem (h.2.1 q (List.mem_of_getElem? hq))
  exact ⟨j, hj⟩
theorem gOK_n {K : Nat → ClassId} {g2 : Nat → Nat → Option Nat} {tx : va_W} (h : gOK K g2 tx) (s i : Nat) (v : Option Nat) (hv : v = none ∨ ∃ t : tX, tIn K tx t ∧ v = some (t.1 0)) : gOK K (va_up g2 s (va_up (g2 s) i v)) tx := by
  intro s' i' hs
  unfold va_up
  by_cases e : s' = s
  · rw [if_pos e]
    by_cases e2 : i' = i
    · rw [if_pos e2]; exact hv
    · rw [if_neg e2]
      rw [← e]
      exact h s' i' hs
  · rw [if_neg e]; exact h s' i' hs
theorem gOK_o {K : Nat → ClassId} {g2 : Nat → Nat → Option Nat} {tx : va_W} (h : gOK K g2 tx) (s : Nat) (u : Nat → Option Nat) (hs : s ≠ 15 ∧ s ≠ 40 ∧ s ≠ 73 ∧ s ≠ 109) : gOK K (va_up g2 s u) tx := by
  intro s' i' h'
  have e : s' ≠ s := by omega
  unfold va_up
  rw [if_neg e]; exact h s' i' h'
/-! bounds of the class's numbers; what stays -/
def xBf (i : Nat) : Int × Int := if i = 12 then (0, 400) else if i = 705 then (0, 15) else if i = 1505 then (0, 15) else if i = 1637 then (0, 400) else if i = 32 then (0, 10) else if i = 832 then (0, 10) else if i = 1888 then (0, 10) else if i = 3040 then (0, 10) else if i = 1632 then (0, 12) else kAny
abbrev xL : Type := List Nat × List Nat × List Nat
def xLe (L M : xL) : Bool := L.1.all (fun k => M.1.contains k) && L.2.1.all (fun k => M.2.1.contains k) && L.2.2.all (fun k => M.2.2.contains k)
def xEk (L : xL) (f : Nat → Int32) (a : Nat → Nat → Int32) (g : xG) (f' : Nat → Int32) (a' : Nat → Nat → Int32) (g' : xG) : Prop := (∀ k, L.1.contains k = false → f' k = f k) ∧ (∀ s, L.2.1.contains s = false → a' s = a s) ∧ (∀ s, L.2.2.contains s = false → g'.2 s = g.2 s)
theorem lc_w {L M : List Nat} (w : L.all (fun k => M.contains k) = true) {k : Nat} (h : M.contains k = false) : L.contains k = false := by
  cases hx : L.contains k with
  | false => rfl
  | true => rw [List.all_eq_true.mp w k (List.contains_iff_mem.mp hx)] at h; cases h
section XEK
variable {L M : xL} {f f1 f2 : Nat → Int32} {a a1 a2 : Nat → Nat → Int32} {g g1 g2 : xG}
theorem xEk_rf : xEk L f a g f a g := ⟨fun _ _ => rfl, fun _ _ => rfl, fun _ _ => rfl⟩
theorem xEk_tr (h : xEk L f a g f1 a1 g1) (q : xEk L f1 a1 g1 f2 a2 g2) : xEk L f a g f2 a2 g2 := ⟨fun k hk => (q.1 k hk).trans (h.1 k hk), fun k hk => (q.2.1 k hk).trans (h.2.1 k hk), fun k hk => (q.2.2 k hk).trans (h.2.2 k hk)⟩
theorem xEk_w (w : xLe L M = true) (h : xEk L f a g f1 a1 g1) : xEk M f a g f1 a1 g1 := by
  unfold xLe at w
  rw [Bool.and_eq_true, Bool.and_eq_true] at w
  exact ⟨fun k hk => h.1 k (lc_w w.1.1 hk), fun k hk => h.2.1 k (lc_w w.1.2 hk), fun k hk => h.2.2 k (lc_w w.2 hk)⟩
theorem xEk_f (h : xEk L f a g f1 a1 g1) {k : Nat} {v : Int32} (n : L.1.contains k = true) : xEk L f a g (upd f1 k v) a1 g1 := ⟨fun j hj => (pk_un (fun e => by rw [e, n] at hj; cases hj)).trans (h.1 j hj), h.2⟩
theorem xEk_a (h : xEk L f a g f1 a1 g1) {s : Nat} {u : Nat → Int32} (n : L.2.1.contains s = true) : xEk L f a g f1 (va_up a1 s u) g1 := by
  refine ⟨h.1, fun j hj => ?_, h.2.2⟩
  have e : j ≠ s := fun e => by rw [e, n] at hj; cases hj
  unfold va_up
  rw [if_neg e]; exact h.2.1 j hj
theorem xEk_g {x : Nat → Nat → Int64} (h : xEk L f a g f1 a1 g1) : xEk L f a g f1 a1 (x, g1.2) := h
theorem xEk_q {s : Nat} {u : Nat → Option Nat} {x : Nat → Nat → Int64} (h : xEk L f a g f1 a1 g1) (n : L.2.2.contains s = true) : xEk L f a g f1 a1 (x, va_up g1.2 s u) := by
  refine ⟨h.1, h.2.1, fun j hj => ?_⟩
  have e : j ≠ s := fun e => by rw [e, n] at hj; cases hj
  show va_up g1.2 s u j = _
  unfold va_up
  rw [if_neg e]; exact h.2.2 j hj
end XEK

def xBa (s i : Nat) : Int × Int := if s = 55 then (0, 65535) else kAny
def xI (f : Nat → Int32) (a : Nat → Nat → Int32) : Prop := fI xBf f ∧ aI xBa a
theorem xI_f {f f' : Nat → Int32} {a : Nat → Nat → Int32} (h : xI f a) (q : fI xBf f') : xI f' a := ⟨q, h.2⟩
theorem xI_a {f : Nat → Int32} {a : Nat → Nat → Int32} (h : xI f a) {s : Nat} {u : Nat → Int32} (n : s ≠ 55) : xI f (va_up a s u) := by
  refine ⟨h.1, fun s' i => ?_⟩
  unfold va_up
  by_cases e : s' = s
  · rw [if_pos e, e]
    have : xBa s i = kAny := if_neg n
    rw [this]
    exact kb_any _
  · rw [if_neg e]; exact h.2 s' i
theorem xI_55 {f : Nat → Int32} {a : Nat → Nat → Int32} (h : xI f a) {k : Nat} {y : Int32} (b : kb 0 y 65535) : xI f (va_up a 55 (upd (a 55) k y)) := ⟨h.1, aI_st h.2 55 k b (by show (0 : Int) ≤ 0; decide) (by show (65535 : Int) ≤ 65535; decide)⟩
theorem xI_c {f : Nat → Int32} {a : Nat → Nat → Int32} (h : xI f a) (i : Nat) : kb 0 (a 55 i) 65535 := h.2 55 i
theorem kb_shr12 {l h : Int} {x : Int32} (b : kb l x h) (p : 0 ≤ l) : kb (l / 4096) (x >>> ((12 : Int32) &&& 31)) (h / 4096) := by
  have e := pk_shr x ((12 : Int32) &&& 31) 12 (by decide +kernel)
  have e2 : x.toInt >>> 12 = x.toInt / 4096 := by rw [Int.shiftRight_eq_div_pow]; rfl
  have := b.1; have := b.2
  unfold kb
  rw [e, e2]
  omega
theorem kb_shl12 {l h : Int} {x : Int32} (b : kb l x h) (p : 0 ≤ l) (q : h ≤ 1000) : kb 0 (x <<< ((12 : Int32) &&& 31)) (h * 4096) := by
  obtain ⟨n, e, hn, hl⟩ := kn_nat b p
  have b2 := b.2
  have h2 : n * 2 ^ 12 < 2 ^ 32 := by omega
  rw [e, pk_shlN (n := n) _ 12 (by decide +kernel) h2]
  unfold kb
  rw [kn_to (by omega)]
  omega
theorem kb_andN {l h : Int} {x m : Int32} (b : kb l x h) (p : 0 ≤ l) : kb 0 (x &&& m) h := by
  obtain ⟨n, e, hn, hl⟩ := kn_nat b p
  have b2 := b.2
  have h1 : n &&& m.toBitVec.toNat ≤ n := Nat.and_le_left
  have e2 : x &&& m = nI (n &&& m.toBitVec.toNat) := by
    rw [e]
    apply Int32.toBitVec_inj.mp
    apply BitVec.eq_of_toNat_eq
    rw [kn_bv (by omega), Int32.toBitVec_and, BitVec.toNat_and, kn_bv (by omega)]
  rw [e2]
  unfold kb
  rw [kn_to (by omega)]
  omega
/-- a site behind the class's cells, at the places 95 .. 115 -/
def sI (K : Nat → ClassId) (r : Nat → Nat) (f : Nat → Int32) (a : Nat → Nat → Int32) (g : xG) : va_W := [
  (r 95, .inr (7, [.int (f 3040), .ref (r 96), .ref (r 97), .ref (r 98), .ref (r 99), .ref (r 100), .int (f 3046), .ref (r 101), .ref (r 102), .ref (r 103), .ref (r 104), .ref (r 105), .int (f 3052), .ref (r 106), .ref (r 107), .ref (r 108), .ref (r 109), .int (f 3057), .int (f 3058), .ref (r 110)])),
  (r 96, .inl (K 0, 10, .inl (a 96))),
  (r 97, .inl (K 0, 10, .inl (a 97))),
  (r 98, .inl (K 0, 10, .inl (a 98))),
  (r 99, .inl (K 0, 10, .inl (a 99))),
  (r 100, .inl (K 0, 10, .inl (a 100))),
  (r 101, .inl (K 0, 6, .inl (a 101))),
  (r 102, .inl (K 0, 6, .inl (a 102))),
  (r 103, .inl (K 0, 6, .inl (a 103))),
  (r 104, .inl (K 0, 6, .inl (a 104))),
  (r 105, .inl (K 0, 4, .inl (a 105))),
  (r 106, .inl (K 0, 8, .inl (a 106))),
  (r 107, .inl (K 0, 8, .inl (a 107))),
  (r 108, .inl (K 0, 8, .inl (a 108))),
  (r 109, .inl (K 5, 6, .inr (.inr (.inr (.inr (g.2 109)))))),
  (r 110, .inr (8, [.ref (r 111), .ref (r 112), .ref (r 113), .ref (r 114), .ref (r 115)])),
  (r 111, .inl (K 3, 10, .inr (.inl (g.1 111)))),
  (r 112, .inl (K 3, 32, .inr (.inl (g.1 112)))),
  (r 113, .inl (K 0, 6, .inl (a 113))),
  (r 114, .inl (K 0, 6, .inl (a 114))),
  (r 115, .inl (K 0, 10, .inl (a 115)))]
/-- a text there, at the places 95 .. 99 -/
def tN (K : Nat → ClassId) (r : Nat → Nat) (f : Nat → Int32) (a : Nat → Nat → Int32) (n : Nat) : va_W := [(r 95, .inr (10, [.int (f 3040), .ref (r 96), .ref (r 97), .ref (r 98), .ref (r 99), .int (f 3045)])), (r 96, .inl (K 0, 12, .inl (a 96))), (r 97, .inl (K 0, 12, .inl (a 97))), (r 98, .inl (K 0, 37, .inl (a 98))), (r 99, .inl (K 0, n, .inl (a 99)))]
theorem va_P_pm {D : va_G} {ws wt : va_W} {H : Heap} (h : ws.Perm wt) (hP : va_P D vwCl ws H) : va_P D vwCl wt H := by
  intro k q hq
  obtain ⟨j, hj⟩ := List.getElem?_of_mem (h.mem_iff.mpr (List.mem_of_getElem? hq))
  exact hP j q hj
theorem va_D_nd {A : Nat → Prop} {ws : va_W} (hD : va_D A ws) : (ws.map Prod.fst).Nodup := by
  rw [List.nodup_iff_pairwise_ne, List.pairwise_iff_getElem]
  intro i j hi hj hij e
  have hi' : i < ws.length := by simpa using hi
  have hj' : j < ws.length := by simpa using hj
  rw [List.getElem_map, List.getElem_map] at e
  have := hD.1 i j ws[i] ws[j] (List.getElem?_eq_getElem hi') (List.getElem?_eq_getElem hj') e
  omega
theorem va_D_of {A : Nat → Prop} {ws : va_W} (hn : (ws.map Prod.fst).Nodup) (hA : ∀ q ∈ ws, A q.1) : va_D A ws := by
  refine ⟨fun i j p q hp hq e => ?_, fun k q hq => hA q (List.mem_of_getElem? hq)⟩
  obtain ⟨hi, ep⟩ := List.getElem?_eq_some_iff.mp hp
  obtain ⟨hj, eq⟩ := List.getElem?_eq_some_iff.mp hq
  rw [List.nodup_iff_pairwise_ne, List.pairwise_iff_getElem] at hn
  by_cases h1 : i < j
  · have h2 := hn i j (by simpa using hi) (by simpa using hj) h1
    rw [List.getElem_map, List.getElem_map, ep, eq] at h2
    exact absurd e h2
  · by_cases h3 : j < i
    · have h2 := hn j i (by simpa using hj) (by simpa using hi) h3
      rw [List.getElem_map, List.getElem_map, ep, eq] at h2
      exact absurd e.symm h2
    · omega
theorem va_D_pm {A : Nat → Prop} {ws wt : va_W} (h : ws.Perm wt) (hD : va_D A ws) : va_D A wt := by
  refine va_D_of ((h.map Prod.fst).nodup_iff.mp (va_D_nd hD)) (fun q hq => ?_)
  obtain ⟨k, hk⟩ := List.getElem?_of_mem (h.mem_iff.mpr hq)
  exact hD.2 k q hk
theorem xX_pm {K : Nat → ClassId} {r : Nat → Nat} {f : Nat → Int32} {a : Nat → Nat → Int32} {g : xG} {tx ty : va_W} (h : tx.Perm ty) : (xX K r f a g tx).Perm (xX K r f a g ty) := by
  rw [xX_app, xX_app (tx := ty)]
  exact h.append_left _
