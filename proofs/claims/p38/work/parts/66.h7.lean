/-! the row of words: String.length, String.charAt -/
def kSE (l : Launch) (y : MethodName) (wd : List Cond) (rm : Room) (q v : Nat) (z : Option Nat) (av : List Value) (post : Int32 → Prop) : Prop := Met l y wd rm (va_Pc av (fun U => kStr q v z (fun _ => False) U U.heap)) (va_Qi (fun r (_ : Unit) => post r) (fun _ _ => True) (fun _ => False)) 0 0 (fun _ => False)
def kSV (l : Launch) (y : MethodName) (wd : List Cond) (rm : Room) (q v : Nat) (z : Option Nat) (av : List Value) : Prop := Met l y wd rm (va_Pc av (fun U => kStr q v z (fun _ => False) U U.heap)) (va_Qv (fun (_ : Unit) => True) (fun _ _ => True) (fun _ => False)) 0 0 (fun _ => False)
def kQsv (below : List Frame) (args : Array Value) (s : State) : State → Prop := MQ below (va_Qv (fun (_ : Unit) => True) (fun _ _ => True) (fun _ => False)) args s 0 0 (fun _ => False)
section KSTR
variable {p : Program} {l : Launch} {e : Env} {R : Room} {s : State} {m : MethodId} {args : Array Value} {below : List Frame} {meth : Method} {c : Code} {H : Heap} {locs : List Loc} {cells slots : Nat} {Q : State → Prop} {pc : Nat} {ls : Array Slot} {rest st0 : List Value} {cc : ByteArray}
variable {y : MethodName} {bytes : ByteArray} {maxL nL n index : Nat} {ret : Option FieldType} {wd wd' : List Cond} {rm : Room} {Ts : List Cond} {own C : String} {b : Addr} {As av : List Value} {D : va_G} {ws : va_W} {A : Nat → Prop} {q v : Nat} {z : Option Nat}
theorem kSE.of {post : Int32 → Prop} (hy : plainName y.cls = true) (hw : wd = Cond.code y cc maxL ret :: wd') (hlen : (lg_sl av).length ≤ maxL)
    (body : ∀ (p : Program) (e : Env) (s : State) (m : MethodId) (below : List Frame) (meth : Method) (c : Code), p.tables.exec = Jvm.exec → c.code = cc → meth.sig.returnType = ret → c.maxLocals = maxL → s.vm.findClass y.cls = some m.cls → (∀ w ∈ wd, w.before av.toArray s = true) → meth.locks = false → va_S (fun _ => False) s.heap s.heap [] → kStr q v z (fun _ => False) s s.heap → ∀ ls : Array Slot, lv_has ls maxL (lv_args 0 av) → W p l e rm s m av.toArray below meth c s.heap [] 0 0 (kQn post below av.toArray s) (F0 m 0 ls [])) :
    kSE l y wd rm q v z av post := by
  refine Met.ofW (cc := cc) (maxL := maxL) (ret := ret) hy hw ?_
  intro p e s m args below meth c s₁ B hml hv
  obtain ⟨rfl, hE⟩ := hv
  rw [lg_entry_eq]
  exact body p e s m below meth c B.exec B.bytes B.returns hml (findClass_of_methodNamed B.named) (atoms_spec (ws := wd) B.pre) B.notSynchronized va_S.rf hE _ (lv_entry av hlen)
theorem kSV.of (hy : plainName y.cls = true) (hw : wd = Cond.code y cc maxL ret :: wd') (hlen : (lg_sl av).length ≤ maxL)
    (body : ∀ (p : Program) (e : Env) (s : State) (m : MethodId) (below : List Frame) (meth : Method) (c : Code), p.tables.exec = Jvm.exec → c.code = cc → meth.sig.returnType = ret → c.maxLocals = maxL → s.vm.findClass y.cls = some m.cls → (∀ w ∈ wd, w.before av.toArray s = true) → meth.locks = false → va_S (fun _ => False) s.heap s.heap [] → kStr q v z (fun _ => False) s s.heap → ∀ ls : Array Slot, lv_has ls maxL (lv_args 0 av) → W p l e rm s m av.toArray below meth c s.heap [] 0 0 (kQsv below av.toArray s) (F0 m 0 ls [])) :
    kSV l y wd rm q v z av := by
  refine Met.ofW (cc := cc) (maxL := maxL) (ret := ret) hy hw ?_
  intro p e s m args below meth c s₁ B hml hv
  obtain ⟨rfl, hE⟩ := hv
  rw [lg_entry_eq]
  exact body p e s m below meth c B.exec B.bytes B.returns hml (findClass_of_methodNamed B.named) (atoms_spec (ws := wd) B.pre) B.notSynchronized va_S.rf hE _ (lv_entry av hlen)
theorem kSV_ret (hx : p.tables.exec = Jvm.exec) (hb : c.code = cc) (hr : meth.sig.returnType = none) (hlocks : meth.locks = false) (hS : va_S (fun _ => False) s.heap H locs) (hdg : decode cc pc = .ok (.return_, 1)) : W p l e R s m args below meth c H locs 0 0 (kQsv below args s) (F0 m pc ls []) :=
  W.vret hx hb hr (fun t ht hW => ⟨⟨(), rfl, trivial, trivial⟩, hS.F ht⟩) hS.2.2 hdg hlocks
theorem kstrblind : FrameBlind (va_Pc av (fun U => kStr q v z (fun _ => False) U U.heap)) := by
  intro a U g mk h
  exact ⟨h.1, kStr.moved (u := U) (Vm.Alike.refl U.vm) h.2⟩
theorem kstr_recv (hE : kStr q v z A s s.heap) (hS : va_S A s.heap H locs) : ∃ cell : Cell, H[q]? = some cell ∧ cell.vm.isStatics = false ∧ s.vm.findClass "java/lang/String" = some cell.cls := by
  obtain ⟨cell, h1, h2, h3, -⟩ := hE.1.kept hS.2.1
  exact ⟨cell, h1, h2, h3⟩
theorem kSE.callV {post : Int32 → Prop} (F : CallFix p m c cc nL s args Ts own) (hc : kSE l y wd rm q v z (.ref q :: As) post) (cw : CallW R s args own "java/lang/String" index y bytes maxL ret wd rm 0 0 n) (hE : kStr q v z A s s.heap) (hP : va_P D vwCl ws H) (hS : va_S A s.heap H locs)
    (hn : As.length = n) (hsize : ls.size = nL) (hstack : st0 = As.reverse ++ .ref q :: rest) (hW : (rest.map fun v => v.category).sum ≤ 8) (hdg : decode cc pc = .ok (.invokevirtual index, 3)) (hf : cells + 0 ≤ R.cells ∧ slots + 0 ≤ R.slots)
    (kk : ∀ (r : Int32) (H1 : Heap) (locs1 : List Loc), post r → va_P D vwCl ws H1 → va_S A s.heap H1 locs1 → W p l e R s m args below meth c H1 locs1 cells slots Q (F0 m (pc + 3) ls (.int r :: rest))) : W p l e R s m args below meth c H locs cells slots Q (F0 m pc ls st0) := by
  refine va_calli (va_runV (As := As) (rest := rest) F hc cw ⟨kstrblind, kstr_recv hE hS, fun U hU hW => ⟨rfl, by show kStr q v z (fun _ => False) U U.heap; rw [hU]; exact hE.to hW.alike hS.2.1 (fun _ h => h.elim)⟩⟩ rfl hn hsize hstack (lv_room hW) hdg hf) hS (fun q _ h => h.elim) (fun q h => h.elim) (fun r u t H1 locs ht hvm hw hB hz1 hk1 hS => ?_)
  refine kk r H1 locs hw (fun k q hq => ?_) hS
  exact (hP k q hq).kept (hk1 q.1 (hP k q hq).lt (fun h => h))
theorem kSE.callS {post : Int32 → Prop} (F : CallFix p m c cc nL s args Ts own) (hc : kSE l y wd rm q v z As post) (cw : CallB R s args own index y bytes maxL ret wd rm 0 0 n ∧ (Cond.static y).before args s = true) (hE : kStr q v z A s s.heap) (hP : va_P D vwCl ws H) (hS : va_S A s.heap H locs)
    (hn : As.length = n) (hsize : ls.size = nL) (hstack : st0 = As.reverse ++ rest) (hW : (rest.map fun v => v.category).sum ≤ 8) (hdg : decode cc pc = .ok (.invokestatic index, 3)) (hf : cells + 0 ≤ R.cells ∧ slots + 0 ≤ R.slots)
    (kk : ∀ (r : Int32) (H1 : Heap) (locs1 : List Loc), post r → va_P D vwCl ws H1 → va_S A s.heap H1 locs1 → W p l e R s m args below meth c H1 locs1 cells slots Q (F0 m (pc + 3) ls (.int r :: rest))) : W p l e R s m args below meth c H locs cells slots Q (F0 m pc ls st0) := by
  refine va_calli (va_runS (As := As) (rest := rest) F hc cw ⟨kstrblind, fun U hU hW => ⟨rfl, by show kStr q v z (fun _ => False) U U.heap; rw [hU]; exact hE.to hW.alike hS.2.1 (fun _ h => h.elim)⟩⟩ rfl hn hsize hstack (lv_room hW) hdg hf) hS (fun q _ h => h.elim) (fun q h => h.elim) (fun r u t H1 locs ht hvm hw hB hz1 hk1 hS => ?_)
  refine kk r H1 locs hw (fun k q hq => ?_) hS
  exact (hP k q hq).kept (hk1 q.1 (hP k q hq).lt (fun h => h))
theorem kSV.callS (F : CallFix p m c cc nL s args Ts own) (hc : kSV l y wd rm q v z As) (cw : CallB R s args own index y bytes maxL ret wd rm 0 0 n ∧ (Cond.static y).before args s = true) (hE : kStr q v z A s s.heap) (hP : va_P D vwCl ws H) (hS : va_S A s.heap H locs)
    (hn : As.length = n) (hsize : ls.size = nL) (hstack : st0 = As.reverse ++ rest) (hW : (rest.map fun v => v.category).sum ≤ 8) (hdg : decode cc pc = .ok (.invokestatic index, 3)) (hf : cells + 0 ≤ R.cells ∧ slots + 0 ≤ R.slots)
    (kk : ∀ (H1 : Heap) (locs1 : List Loc), va_P D vwCl ws H1 → va_S A s.heap H1 locs1 → W p l e R s m args below meth c H1 locs1 cells slots Q (F0 m (pc + 3) ls rest)) : W p l e R s m args below meth c H locs cells slots Q (F0 m pc ls st0) := by
  refine va_callv (va_runS (As := As) (rest := rest) F hc cw ⟨kstrblind, fun U hU hW => ⟨rfl, by show kStr q v z (fun _ => False) U U.heap; rw [hU]; exact hE.to hW.alike hS.2.1 (fun _ h => h.elim)⟩⟩ rfl hn hsize hstack (lv_room hW) hdg hf) hS (fun q _ h => h.elim) (fun q h => h.elim) (fun u t H1 locs ht hvm hw hB hz1 hk1 hS => ?_)
  refine kk H1 locs (fun k q hq => ?_) hS
  exact (hP k q hq).kept (hk1 q.1 (hP k q hq).lt (fun h => h))
end KSTR
theorem wBy_c : ∀ j : Fin 146, ((wBy j.val &&& 255).toUInt32 % 65536).toInt32 = wBy j.val := by decide +kernel
theorem wBy_n : ∀ j : Fin 146, narrow .char (.int (wBy j.val)) = .int (wBy j.val) := by
  have h : ∀ j : Fin 146, ((wBy j.val).toUInt32 % 65536).toInt32 = wBy j.val := by decide +kernel
  intro j
  exact congrArg Value.int (h j)
theorem dJ0_length_8abf5_0 : decode cJ0_length_8abf5 0 = .ok (.aload_n 0, 1) := by decide +kernel
theorem dJ0_length_8abf5_1 : decode cJ0_length_8abf5 1 = .ok (.getfield 9, 3) := by decide +kernel
theorem dJ0_length_8abf5_4 : decode cJ0_length_8abf5 4 = .ok (.arraylength, 1) := by decide +kernel
theorem dJ0_length_8abf5_5 : decode cJ0_length_8abf5 5 = .ok (.aload_n 0, 1) := by decide +kernel
theorem dJ0_length_8abf5_6 : decode cJ0_length_8abf5 6 = .ok (.invokevirtual 335, 3) := by decide +kernel
theorem dJ0_length_8abf5_9 : decode cJ0_length_8abf5 9 = .ok (.ishr, 1) := by decide +kernel
theorem dJ0_length_8abf5_10 : decode cJ0_length_8abf5 10 = .ok (.ireturn, 1) := by decide +kernel
theorem dJ0_charAt_5068e_0 : decode cJ0_charAt_5068e 0 = .ok (.aload_n 0, 1) := by decide +kernel
theorem dJ0_charAt_5068e_1 : decode cJ0_charAt_5068e 1 = .ok (.invokevirtual 492, 3) := by decide +kernel
theorem dJ0_charAt_5068e_4 : decode cJ0_charAt_5068e 4 = .ok (.ifCond .eq 12, 3) := by decide +kernel
theorem dJ0_charAt_5068e_7 : decode cJ0_charAt_5068e 7 = .ok (.aload_n 0, 1) := by decide +kernel
theorem dJ0_charAt_5068e_8 : decode cJ0_charAt_5068e 8 = .ok (.getfield 9, 3) := by decide +kernel
theorem dJ0_charAt_5068e_11 : decode cJ0_charAt_5068e 11 = .ok (.iload_n 1, 1) := by decide +kernel
theorem dJ0_charAt_5068e_12 : decode cJ0_charAt_5068e 12 = .ok (.invokestatic 495, 3) := by decide +kernel
theorem dJ0_charAt_5068e_15 : decode cJ0_charAt_5068e 15 = .ok (.ireturn, 1) := by decide +kernel
theorem dJ0_coder_7d493_0 : decode cJ0_coder_7d493 0 = .ok (.getstatic 38, 3) := by decide +kernel
theorem dJ0_coder_7d493_3 : decode cJ0_coder_7d493 3 = .ok (.ifCond .eq 10, 3) := by decide +kernel
theorem dJ0_coder_7d493_6 : decode cJ0_coder_7d493 6 = .ok (.aload_n 0, 1) := by decide +kernel
theorem dJ0_coder_7d493_7 : decode cJ0_coder_7d493 7 = .ok (.getfield 15, 3) := by decide +kernel
theorem dJ0_coder_7d493_10 : decode cJ0_coder_7d493 10 = .ok (.goto 4, 3) := by decide +kernel
theorem dJ0_coder_7d493_14 : decode cJ0_coder_7d493 14 = .ok (.ireturn, 1) := by decide +kernel
theorem dJ0_isLatin1_aae02_0 : decode cJ0_isLatin1_aae02 0 = .ok (.getstatic 38, 3) := by decide +kernel
theorem dJ0_isLatin1_aae02_3 : decode cJ0_isLatin1_aae02 3 = .ok (.ifCond .eq 14, 3) := by decide +kernel
theorem dJ0_isLatin1_aae02_6 : decode cJ0_isLatin1_aae02 6 = .ok (.aload_n 0, 1) := by decide +kernel
theorem dJ0_isLatin1_aae02_7 : decode cJ0_isLatin1_aae02 7 = .ok (.getfield 15, 3) := by decide +kernel
theorem dJ0_isLatin1_aae02_10 : decode cJ0_isLatin1_aae02 10 = .ok (.ifCond .ne 7, 3) := by decide +kernel
theorem dJ0_isLatin1_aae02_13 : decode cJ0_isLatin1_aae02 13 = .ok (.iconst 1, 1) := by decide +kernel
theorem dJ0_isLatin1_aae02_14 : decode cJ0_isLatin1_aae02 14 = .ok (.goto 4, 3) := by decide +kernel
theorem dJ0_isLatin1_aae02_18 : decode cJ0_isLatin1_aae02 18 = .ok (.ireturn, 1) := by decide +kernel
theorem dJ0_checkIndex_df160_0 : decode cJ0_checkIndex_df160 0 = .ok (.iload_n 0, 1) := by decide +kernel
theorem dJ0_checkIndex_df160_1 : decode cJ0_checkIndex_df160 1 = .ok (.iload_n 1, 1) := by decide +kernel
theorem dJ0_checkIndex_df160_2 : decode cJ0_checkIndex_df160 2 = .ok (.getstatic 1053, 3) := by decide +kernel
theorem dJ0_checkIndex_df160_5 : decode cJ0_checkIndex_df160 5 = .ok (.invokestatic 1059, 3) := by decide +kernel
theorem dJ0_checkIndex_df160_8 : decode cJ0_checkIndex_df160 8 = .ok (.pop, 1) := by decide +kernel
theorem dJ0_checkIndex_df160_9 : decode cJ0_checkIndex_df160 9 = .ok (.return_, 1) := by decide +kernel
theorem dJ1_charAt_3b067_0 : decode cJ1_charAt_3b067 0 = .ok (.iload_n 1, 1) := by decide +kernel
theorem dJ1_charAt_3b067_1 : decode cJ1_charAt_3b067 1 = .ok (.aload_n 0, 1) := by decide +kernel
theorem dJ1_charAt_3b067_2 : decode cJ1_charAt_3b067 2 = .ok (.arraylength, 1) := by decide +kernel
theorem dJ1_charAt_3b067_3 : decode cJ1_charAt_3b067 3 = .ok (.invokestatic 9, 3) := by decide +kernel
theorem dJ1_charAt_3b067_6 : decode cJ1_charAt_3b067 6 = .ok (.aload_n 0, 1) := by decide +kernel
theorem dJ1_charAt_3b067_7 : decode cJ1_charAt_3b067 7 = .ok (.iload_n 1, 1) := by decide +kernel
theorem dJ1_charAt_3b067_8 : decode cJ1_charAt_3b067 8 = .ok (.baload, 1) := by decide +kernel
theorem dJ1_charAt_3b067_9 : decode cJ1_charAt_3b067 9 = .ok (.sipush 255, 3) := by decide +kernel
theorem dJ1_charAt_3b067_12 : decode cJ1_charAt_3b067 12 = .ok (.iand, 1) := by decide +kernel
theorem dJ1_charAt_3b067_13 : decode cJ1_charAt_3b067 13 = .ok (.i2c, 1) := by decide +kernel
theorem dJ1_charAt_3b067_14 : decode cJ1_charAt_3b067 14 = .ok (.ireturn, 1) := by decide +kernel
theorem dJ3_checkIndex_8e157_0 : decode cJ3_checkIndex_8e157 0 = .ok (.iload_n 0, 1) := by decide +kernel
theorem dJ3_checkIndex_8e157_1 : decode cJ3_checkIndex_8e157 1 = .ok (.ifCond .lt 8, 3) := by decide +kernel
theorem dJ3_checkIndex_8e157_4 : decode cJ3_checkIndex_8e157 4 = .ok (.iload_n 0, 1) := by decide +kernel
theorem dJ3_checkIndex_8e157_5 : decode cJ3_checkIndex_8e157 5 = .ok (.iload_n 1, 1) := by decide +kernel
theorem dJ3_checkIndex_8e157_6 : decode cJ3_checkIndex_8e157 6 = .ok (.if_icmp .lt 10, 3) := by decide +kernel
theorem dJ3_checkIndex_8e157_16 : decode cJ3_checkIndex_8e157 16 = .ok (.iload_n 0, 1) := by decide +kernel
theorem dJ3_checkIndex_8e157_17 : decode cJ3_checkIndex_8e157 17 = .ok (.ireturn, 1) := by decide +kernel
theorem wt3_180 : Cond.fieldLink RJ0 38 "java/lang/String" "COMPACT_STRINGS" "Z" ∈ kG := kt3 180 rfl rfl
theorem wt8_91 : Cond.fieldLink RJ0 15 "java/lang/String" "coder" "B" ∈ kG := kt8 91 rfl rfl
theorem wt3_179 : Cond.code yJ0_coder_7d493 cJ0_coder_7d493 1 (some .byte) ∈ kG := kt3 179 rfl rfl
theorem wt3_189 : Cond.code yJ0_isLatin1_aae02 cJ0_isLatin1_aae02 1 (some .boolean) ∈ kG := kt3 189 rfl rfl
theorem wt8_90 : Cond.fieldLink RJ0 9 "java/lang/String" "value" "[B" ∈ kG := kt8 90 rfl rfl
theorem wt3_176 : Cond.methodLink RJ0 335 yJ0_coder_7d493 ∈ kG := kt3 176 rfl rfl
theorem wt3_177 : Cond.instanceMethod yJ0_coder_7d493 ∈ kG := kt3 177 rfl rfl
theorem wt3_178 : Cond.selects RJ0 yJ0_coder_7d493 yJ0_coder_7d493 ∈ kG := kt3 178 rfl rfl
theorem wt1_15 : Cond.initialized RJ0 ∈ kG := kt1 15 rfl rfl
theorem wt3_200 : Cond.code yJ3_checkIndex_8e157 cJ3_checkIndex_8e157 3 (some .int) ∈ kG := kt3 200 rfl rfl
theorem wt3_196 : Cond.fieldLink RJ0 1053 "jdk/internal/util/Preconditions" "SIOOBE_FORMATTER" "Ljava/util/function/BiFunction;" ∈ kG := kt3 196 rfl rfl
theorem wt3_198 : Cond.methodLink RJ0 1059 yJ3_checkIndex_8e157 ∈ kG := kt3 198 rfl rfl
theorem wt3_199 : Cond.static yJ3_checkIndex_8e157 ∈ kG := kt3 199 rfl rfl
theorem wt1_17 : Cond.initialized RJ3 ∈ kG := kt1 17 rfl rfl
theorem wt3_195 : Cond.code yJ0_checkIndex_df160 cJ0_checkIndex_df160 2 none ∈ kG := kt3 195 rfl rfl
theorem wt3_193 : Cond.methodLink RJ1 9 yJ0_checkIndex_df160 ∈ kG := kt3 193 rfl rfl
theorem wt3_194 : Cond.static yJ0_checkIndex_df160 ∈ kG := kt3 194 rfl rfl
theorem wt3_192 : Cond.code yJ1_charAt_3b067 cJ1_charAt_3b067 2 (some .char) ∈ kG := kt3 192 rfl rfl
theorem wt3_186 : Cond.methodLink RJ0 492 yJ0_isLatin1_aae02 ∈ kG := kt3 186 rfl rfl
theorem wt3_187 : Cond.instanceMethod yJ0_isLatin1_aae02 ∈ kG := kt3 187 rfl rfl
theorem wt3_188 : Cond.selects RJ0 yJ0_isLatin1_aae02 yJ0_isLatin1_aae02 ∈ kG := kt3 188 rfl rfl
theorem wt3_190 : Cond.methodLink RJ0 495 yJ1_charAt_3b067 ∈ kG := kt3 190 rfl rfl
theorem wt3_191 : Cond.static yJ1_charAt_3b067 ∈ kG := kt3 191 rfl rfl
theorem wt1_16 : Cond.initialized RJ1 ∈ kG := kt1 16 rfl rfl
set_option maxHeartbeats 4000000 in
set_option maxRecDepth 100000 in
theorem s_coder (l : Launch) (q v : Nat) (z : Option Nat)   : kSE l yJ0_coder_7d493 (Cond.code yJ0_coder_7d493 cJ0_coder_7d493 1 (some .byte) :: kG) (rmD 1 0 0) q v z [.ref q] (fun w => w = 0) := by
  refine kSE.of (cc := cJ0_coder_7d493) (maxL := 1) (ret := (some .byte)) (by decide) rfl (Nat.le_of_ble_eq_true rfl) ?_
  intro p e s m below meth c hx hb hr hml hown hts hlocks hS hE ls hl
  have hg : ∀ w ∈ kG, w.before _ s = true := fun w h => hts w (List.mem_cons_of_mem _ h)
  have hown : s.vm.findClass RJ0 = some m.cls := hown
  have hl : lv_has ls 1 [(0, .ref q)] := hl
  refine va_gets hx hb hE.2.2.2.2.1 hS hown (hg _ wt3_180) (fun _ h => h) dJ0_coder_7d493_0 ?_
  refine lv_if_eq (tgt := 13) hx hb dJ0_coder_7d493_3 (by decide) (fun c1 => absurd c1 (by decide)) (fun c1 => ?_)
  refine lv_aload_n hx hb dJ0_coder_7d493_6 rfl (lv_at hl 0 rfl) ?_
  refine vk_getf hx hb hE.2.1 hS hown (hg _ wt8_91) (fun _ h => h) dJ0_coder_7d493_7 ?_
  refine lv_goto (tgt := 14) hx hb dJ0_coder_7d493_10 (by decide) ?_
  exact kN_ret (v := 0) hx hb hr hlocks (by decide +kernel) hS dJ0_coder_7d493_14 rfl
set_option maxHeartbeats 4000000 in
set_option maxRecDepth 100000 in
theorem s_latin (l : Launch) (q v : Nat) (z : Option Nat)   : kSE l yJ0_isLatin1_aae02 (Cond.code yJ0_isLatin1_aae02 cJ0_isLatin1_aae02 1 (some .boolean) :: kG) (rmD 1 0 0) q v z [.ref q] (fun w => w = 1) := by
  refine kSE.of (cc := cJ0_isLatin1_aae02) (maxL := 1) (ret := (some .boolean)) (by decide) rfl (Nat.le_of_ble_eq_true rfl) ?_
  intro p e s m below meth c hx hb hr hml hown hts hlocks hS hE ls hl
  have hg : ∀ w ∈ kG, w.before _ s = true := fun w h => hts w (List.mem_cons_of_mem _ h)
  have hown : s.vm.findClass RJ0 = some m.cls := hown
  have hl : lv_has ls 1 [(0, .ref q)] := hl
  refine va_gets hx hb hE.2.2.2.2.1 hS hown (hg _ wt3_180) (fun _ h => h) dJ0_isLatin1_aae02_0 ?_
  refine lv_if_eq (tgt := 17) hx hb dJ0_isLatin1_aae02_3 (by decide) (fun c1 => absurd c1 (by decide)) (fun c1 => ?_)
  refine lv_aload_n hx hb dJ0_isLatin1_aae02_6 rfl (lv_at hl 0 rfl) ?_
  refine vk_getf hx hb hE.2.1 hS hown (hg _ wt8_91) (fun _ h => h) dJ0_isLatin1_aae02_7 ?_
  refine lv_if_ne (tgt := 17) hx hb dJ0_isLatin1_aae02_10 (by decide) (fun c1 => absurd rfl c1) (fun c1 => ?_)
  refine lv_iconst (v := 1) hx hb dJ0_isLatin1_aae02_13 (by decide) ?_
  refine lv_goto (tgt := 18) hx hb dJ0_isLatin1_aae02_14 (by decide) ?_
  exact kN_ret (v := 1) hx hb hr hlocks (by decide +kernel) hS dJ0_isLatin1_aae02_18 rfl
set_option maxHeartbeats 4000000 in
set_option maxRecDepth 100000 in
theorem s_length (l : Launch) (q v : Nat) (z : Option Nat)   : kSE l yJ0_length_8abf5 (Cond.code yJ0_length_8abf5 cJ0_length_8abf5 1 (some .int) :: kG) (rmD 2 0 0) q v z [.ref q] (fun w => w = 146) := by
  refine kSE.of (cc := cJ0_length_8abf5) (maxL := 1) (ret := (some .int)) (by decide) rfl (Nat.le_of_ble_eq_true rfl) ?_
  intro p e s m below meth c hx hb hr hml hown hts hlocks hS hE ls hl
  have hg : ∀ w ∈ kG, w.before _ s = true := fun w h => hts w (List.mem_cons_of_mem _ h)
  have hown : s.vm.findClass RJ0 = some m.cls := hown
  have hl : lv_has ls 1 [(0, .ref q)] := hl
  refine lv_aload_n hx hb dJ0_length_8abf5_0 rfl (lv_at hl 0 rfl) ?_
  refine vk_getf hx hb hE.2.2.1 hS hown (hg _ wt8_90) (fun _ h => h) dJ0_length_8abf5_1 ?_
  refine va_tlen (v := 146) hx hb hE.2.2.2.1 hS (by decide +kernel) dJ0_length_8abf5_4 ?_
  refine lv_aload_n hx hb dJ0_length_8abf5_5 rfl (lv_at hl 0 rfl) ?_
  refine kSE.callV (As := []) (rest := [.int 146]) ⟨hx, hb, hml, hown, hg⟩ (s_coder l q v z) (cwV 0 hg (kgV wt3_176 wt3_177 wt3_178 wt1_15 wt3_179) rfl rfl rfl (by decide +kernel) ⟨by decide, by decide⟩) hE (D := (fun _ => 0, fun _ _ => 0)) (ws := []) (fun k q h => by cases k <;> cases h) hS rfl hl.1 rfl (Nat.le_of_ble_eq_true rfl) dJ0_length_8abf5_6 ⟨by decide, by decide⟩ (fun w H locs hw _ hS => ?_)
  refine lv_ishr hx hb dJ0_length_8abf5_9 ?_
  refine k_top (z := 146) (by rw [hw]; decide +kernel) ?_
  exact kN_ret (v := 146) hx hb hr hlocks rfl hS dJ0_length_8abf5_10 rfl
set_option maxHeartbeats 4000000 in
set_option maxRecDepth 100000 in
theorem s_check3 (l : Launch) (q v : Nat) (z : Option Nat) (i : Int32) (n : Int32) (h0 : 0 ≤ i.toInt) (h1 : i.toInt < n.toInt) : kSE l yJ3_checkIndex_8e157 (Cond.code yJ3_checkIndex_8e157 cJ3_checkIndex_8e157 3 (some .int) :: kG) (rmD 1 0 0) q v z [.int i, .int n, va_rf z] (fun w => w = i) := by
  cases z with
  | none =>
    refine kSE.of (cc := cJ3_checkIndex_8e157) (maxL := 3) (ret := (some .int)) (by decide) rfl (Nat.le_of_ble_eq_true rfl) ?_
    intro p e s m below meth c hx hb hr hml hown hts hlocks hS hE ls hl
    have hg : ∀ w ∈ kG, w.before _ s = true := fun w h => hts w (List.mem_cons_of_mem _ h)
    have hown : s.vm.findClass RJ3 = some m.cls := hown
    have hl : lv_has ls 3 [(0, .int i), (1, .int n), (2, .null)] := hl
    refine lv_iload_n hx hb dJ3_checkIndex_8e157_0 rfl (lv_at hl 0 rfl) ?_
    refine lv_if_lt (tgt := 9) hx hb dJ3_checkIndex_8e157_1 (by decide) (fun c1 => absurd (kc_lt c1) (by have e0 : (0 : Int32).toInt = 0 := (by decide +kernel); omega)) (fun c1 => ?_)
    refine lv_iload_n hx hb dJ3_checkIndex_8e157_4 rfl (lv_at hl 0 rfl) ?_
    refine lv_iload_n hx hb dJ3_checkIndex_8e157_5 rfl (lv_at hl 1 rfl) ?_
    refine lv_icmp_lt (tgt := 16) hx hb dJ3_checkIndex_8e157_6 (by decide) (fun c2 => ?_) (fun c2 => absurd (kc_nlt c2) (by omega))
    refine lv_iload_n hx hb dJ3_checkIndex_8e157_16 rfl (lv_at hl 0 rfl) ?_
    exact kN_ret (v := i) hx hb hr hlocks rfl hS dJ3_checkIndex_8e157_17 rfl
  | some k =>
    refine kSE.of (cc := cJ3_checkIndex_8e157) (maxL := 3) (ret := (some .int)) (by decide) rfl (Nat.le_of_ble_eq_true rfl) ?_
    intro p e s m below meth c hx hb hr hml hown hts hlocks hS hE ls hl
    have hg : ∀ w ∈ kG, w.before _ s = true := fun w h => hts w (List.mem_cons_of_mem _ h)
    have hown : s.vm.findClass RJ3 = some m.cls := hown
    have hl : lv_has ls 3 [(0, .int i), (1, .int n), (2, .ref k)] := hl
    refine lv_iload_n hx hb dJ3_checkIndex_8e157_0 rfl (lv_at hl 0 rfl) ?_
    refine lv_if_lt (tgt := 9) hx hb dJ3_checkIndex_8e157_1 (by decide) (fun c1 => absurd (kc_lt c1) (by have e0 : (0 : Int32).toInt = 0 := (by decide +kernel); omega)) (fun c1 => ?_)
    refine lv_iload_n hx hb dJ3_checkIndex_8e157_4 rfl (lv_at hl 0 rfl) ?_
    refine lv_iload_n hx hb dJ3_checkIndex_8e157_5 rfl (lv_at hl 1 rfl) ?_
    refine lv_icmp_lt (tgt := 16) hx hb dJ3_checkIndex_8e157_6 (by decide) (fun c2 => ?_) (fun c2 => absurd (kc_nlt c2) (by omega))
    refine lv_iload_n hx hb dJ3_checkIndex_8e157_16 rfl (lv_at hl 0 rfl) ?_
    exact kN_ret (v := i) hx hb hr hlocks rfl hS dJ3_checkIndex_8e157_17 rfl
set_option maxHeartbeats 4000000 in
set_option maxRecDepth 100000 in
theorem s_check (l : Launch) (q v : Nat) (z : Option Nat) (i : Int32) (n : Int32) (h0 : 0 ≤ i.toInt) (h1 : i.toInt < n.toInt) : kSV l yJ0_checkIndex_df160 (Cond.code yJ0_checkIndex_df160 cJ0_checkIndex_df160 2 none :: kG) (rmD 2 0 0) q v z [.int i, .int n] := by
  cases z with
  | none =>
    refine kSV.of (cc := cJ0_checkIndex_df160) (maxL := 2) (ret := none) (by decide) rfl (Nat.le_of_ble_eq_true rfl) ?_
    intro p e s m below meth c hx hb hr hml hown hts hlocks hS hE ls hl
    have hg : ∀ w ∈ kG, w.before _ s = true := fun w h => hts w (List.mem_cons_of_mem _ h)
    have hown : s.vm.findClass RJ0 = some m.cls := hown
    have hl : lv_has ls 2 [(0, .int i), (1, .int n)] := hl
    refine lv_iload_n hx hb dJ0_checkIndex_df160_0 rfl (lv_at hl 0 rfl) ?_
    refine lv_iload_n hx hb dJ0_checkIndex_df160_1 rfl (lv_at hl 1 rfl) ?_
    refine va_gets hx hb hE.2.2.2.2.2 hS hown (hg _ wt3_196) (fun _ h => h) dJ0_checkIndex_df160_2 ?_
    refine kSE.callS (As := [.int i, .int n, .null]) (rest := []) ⟨hx, hb, hml, hown, hg⟩ (s_check3 l q v none i n h0 h1) (va_cwS 3 hg (kgS wt3_198 wt3_199 wt1_17 wt3_200) rfl rfl rfl (by decide +kernel) ⟨by decide, by decide⟩) hE (D := (fun _ => 0, fun _ _ => 0)) (ws := []) (fun k q h => by cases k <;> cases h) hS rfl hl.1 rfl (Nat.le_of_ble_eq_true rfl) dJ0_checkIndex_df160_5 ⟨by decide, by decide⟩ (fun w H locs hw _ hS => ?_)
    refine lv_pop hx hb dJ0_checkIndex_df160_8 rfl ?_
    exact kSV_ret hx hb hr hlocks hS dJ0_checkIndex_df160_9
  | some k =>
    refine kSV.of (cc := cJ0_checkIndex_df160) (maxL := 2) (ret := none) (by decide) rfl (Nat.le_of_ble_eq_true rfl) ?_
    intro p e s m below meth c hx hb hr hml hown hts hlocks hS hE ls hl
    have hg : ∀ w ∈ kG, w.before _ s = true := fun w h => hts w (List.mem_cons_of_mem _ h)
    have hown : s.vm.findClass RJ0 = some m.cls := hown
    have hl : lv_has ls 2 [(0, .int i), (1, .int n)] := hl
    refine lv_iload_n hx hb dJ0_checkIndex_df160_0 rfl (lv_at hl 0 rfl) ?_
    refine lv_iload_n hx hb dJ0_checkIndex_df160_1 rfl (lv_at hl 1 rfl) ?_
    refine va_gets hx hb hE.2.2.2.2.2 hS hown (hg _ wt3_196) (fun _ h => h) dJ0_checkIndex_df160_2 ?_
    refine kSE.callS (As := [.int i, .int n, .ref k]) (rest := []) ⟨hx, hb, hml, hown, hg⟩ (s_check3 l q v (some k) i n h0 h1) (va_cwS 3 hg (kgS wt3_198 wt3_199 wt1_17 wt3_200) rfl rfl rfl (by decide +kernel) ⟨by decide, by decide⟩) hE (D := (fun _ => 0, fun _ _ => 0)) (ws := []) (fun k q h => by cases k <;> cases h) hS rfl hl.1 rfl (Nat.le_of_ble_eq_true rfl) dJ0_checkIndex_df160_5 ⟨by decide, by decide⟩ (fun w H locs hw _ hS => ?_)
    refine lv_pop hx hb dJ0_checkIndex_df160_8 rfl ?_
    exact kSV_ret hx hb hr hlocks hS dJ0_checkIndex_df160_9
set_option maxHeartbeats 4000000 in
set_option maxRecDepth 100000 in
theorem s_char1 (l : Launch) (q v : Nat) (z : Option Nat) (i : Int32) (h0 : 0 ≤ i.toInt) (h1 : i.toInt < 146) : kSE l yJ1_charAt_3b067 (Cond.code yJ1_charAt_3b067 cJ1_charAt_3b067 2 (some .char) :: kG) (rmD 3 0 0) q v z [.ref v, .int i] (fun w => w = wBy i.toNatClampNeg) := by
  refine kSE.of (cc := cJ1_charAt_3b067) (maxL := 2) (ret := (some .char)) (by decide) rfl (Nat.le_of_ble_eq_true rfl) ?_
  intro p e s m below meth c hx hb hr hml hown hts hlocks hS hE ls hl
  have hg : ∀ w ∈ kG, w.before _ s = true := fun w h => hts w (List.mem_cons_of_mem _ h)
  have hown : s.vm.findClass RJ1 = some m.cls := hown
  have hl : lv_has ls 2 [(0, .ref v), (1, .int i)] := hl
  have hlt : i.toNatClampNeg < 146 := by unfold Int32.toNatClampNeg; omega
  refine lv_iload_n hx hb dJ1_charAt_3b067_0 rfl (lv_at hl 1 rfl) ?_
  refine lv_aload_n hx hb dJ1_charAt_3b067_1 rfl (lv_at hl 0 rfl) ?_
  refine va_tlen (v := 146) hx hb hE.2.2.2.1 hS (by decide +kernel) dJ1_charAt_3b067_2 ?_
  refine kSV.callS (As := [.int i, .int 146]) (rest := []) ⟨hx, hb, hml, hown, hg⟩ (s_check l q v z i 146 h0 (by have e1 : (146 : Int32).toInt = 146 := (by decide +kernel); omega)) (va_cwS 2 hg (kgS wt3_193 wt3_194 wt1_15 wt3_195) rfl rfl rfl (by decide +kernel) ⟨by decide, by decide⟩) hE (D := (fun _ => 0, fun _ _ => 0)) (ws := []) (fun k q h => by cases k <;> cases h) hS rfl hl.1 rfl (Nat.le_of_ble_eq_true rfl) dJ1_charAt_3b067_3 ⟨by decide, by decide⟩ (fun H locs _ hS => ?_)
  refine lv_aload_n hx hb dJ1_charAt_3b067_6 rfl (lv_at hl 0 rfl) ?_
  refine lv_iload_n hx hb dJ1_charAt_3b067_7 rfl (lv_at hl 1 rfl) ?_
  refine va_tb (v := .int (wBy i.toNatClampNeg)) hx hb hE.2.2.2.1 hS (kb_inn h0 h1) rfl dJ1_charAt_3b067_8 ?_
  refine lv_sipush (v := 255) hx hb dJ1_charAt_3b067_9 (by decide) ?_
  refine lv_iand hx hb dJ1_charAt_3b067_12 ?_
  refine lv_i2c (v := wBy i.toNatClampNeg) hx hb dJ1_charAt_3b067_13 (wBy_c ⟨i.toNatClampNeg, hlt⟩) ?_
  exact kN_ret (v := wBy i.toNatClampNeg) hx hb hr hlocks (wBy_n ⟨i.toNatClampNeg, hlt⟩) hS dJ1_charAt_3b067_14 rfl
set_option maxHeartbeats 4000000 in
set_option maxRecDepth 100000 in
theorem s_charAt (l : Launch) (q v : Nat) (z : Option Nat) (i : Int32) (h0 : 0 ≤ i.toInt) (h1 : i.toInt < 146) : kSE l yJ0_charAt_5068e (Cond.code yJ0_charAt_5068e cJ0_charAt_5068e 2 (some .char) :: kG) (rmD 4 0 0) q v z [.ref q, .int i] (fun w => w = wBy i.toNatClampNeg) := by
  refine kSE.of (cc := cJ0_charAt_5068e) (maxL := 2) (ret := (some .char)) (by decide) rfl (Nat.le_of_ble_eq_true rfl) ?_
  intro p e s m below meth c hx hb hr hml hown hts hlocks hS hE ls hl
  have hg : ∀ w ∈ kG, w.before _ s = true := fun w h => hts w (List.mem_cons_of_mem _ h)
  have hown : s.vm.findClass RJ0 = some m.cls := hown
  have hl : lv_has ls 2 [(0, .ref q), (1, .int i)] := hl
  have hlt : i.toNatClampNeg < 146 := by unfold Int32.toNatClampNeg; omega
  refine lv_aload_n hx hb dJ0_charAt_5068e_0 rfl (lv_at hl 0 rfl) ?_
  refine kSE.callV (As := []) (rest := []) ⟨hx, hb, hml, hown, hg⟩ (s_latin l q v z) (cwV 0 hg (kgV wt3_186 wt3_187 wt3_188 wt1_15 wt3_189) rfl rfl rfl (by decide +kernel) ⟨by decide, by decide⟩) hE (D := (fun _ => 0, fun _ _ => 0)) (ws := []) (fun k q h => by cases k <;> cases h) hS rfl hl.1 rfl (Nat.le_of_ble_eq_true rfl) dJ0_charAt_5068e_1 ⟨by decide, by decide⟩ (fun w H locs hw _ hS => ?_)
  refine lv_if_eq (tgt := 16) hx hb dJ0_charAt_5068e_4 (by decide) (fun c1 => absurd (hw.symm.trans c1) (by decide +kernel)) (fun c1 => ?_)
  refine lv_aload_n hx hb dJ0_charAt_5068e_7 rfl (lv_at hl 0 rfl) ?_
  refine vk_getf hx hb hE.2.2.1 hS hown (hg _ wt8_90) (fun _ h => h) dJ0_charAt_5068e_8 ?_
  refine lv_iload_n hx hb dJ0_charAt_5068e_11 rfl (lv_at hl 1 rfl) ?_
  refine kSE.callS (As := [.ref v, .int i]) (rest := []) ⟨hx, hb, hml, hown, hg⟩ (s_char1 l q v z i h0 h1) (va_cwS 2 hg (kgS wt3_190 wt3_191 wt1_16 wt3_192) rfl rfl rfl (by decide +kernel) ⟨by decide, by decide⟩) hE (D := (fun _ => 0, fun _ _ => 0)) (ws := []) (fun k q h => by cases k <;> cases h) hS rfl hl.1 rfl (Nat.le_of_ble_eq_true rfl) dJ0_charAt_5068e_12 ⟨by decide, by decide⟩ (fun w2 H locs hw2 _ hS => ?_)
  exact kN_ret (v := w2) hx hb hr hlocks (by rw [hw2]; exact wBy_n ⟨i.toNatClampNeg, hlt⟩) hS dJ0_charAt_5068e_15 hw2
