section KLAW
variable {p : Program} {l : Launch} {e : Env} {R : Room} {s : State} {m : MethodId} {args : Array Value} {below : List Frame} {meth : Method} {c : Code} {H : Heap} {locs : List Loc} {cells slots : Nat} {Q : State → Prop} {pc : Nat} {ls : Array Slot} {rest st0 : List Value} {cc : ByteArray}
variable {y : MethodName} {bytes : ByteArray} {maxL nL mc ms n index : Nat} {ret : Option FieldType} {wd : List Cond} {rm : Room} {Ts : List Cond} {own C : String} {b : Addr} {As : List Value} {D : va_G} {tys : List (ClassId × FieldType)} {w1 wb : va_W} {S : Type} {w2 : S → va_W} {A : Nat → Prop}
theorem k_left {H1 : Heap} (hP : va_P D vwCl (w1 ++ wb) H) (hD : va_D A (w1 ++ wb)) (hk : ∀ q : Nat, q < H.size → ¬ va_A w1 H.size q → H1[q]? = H[q]?) : va_P D vwCl wb H1 := by
  intro k q hq
  have hq2 : (w1 ++ wb)[w1.length + k]? = some q := by rw [List.getElem?_append_right (Nat.le_add_right _ _), Nat.add_sub_cancel_left]; exact hq
  have h1 := hP _ _ hq2
  refine h1.kept (hk q.1 h1.lt (fun h => ?_))
  rcases h with ⟨j, e, h⟩ | h
  · have hj : j < w1.length := (List.getElem?_eq_some_iff.mp h).1
    have h2 : (w1 ++ wb)[j]? = some (q.1, e) := by rw [List.getElem?_append_left hj]; exact h
    have := hD.1 _ _ _ _ hq2 h2 rfl
    omega
  · have := h1.lt
    omega
theorem k_pL (hP : va_P D vwCl (w1 ++ wb) H) : va_P D vwCl w1 H := by
  intro k q hq
  have hk : k < w1.length := (List.getElem?_eq_some_iff.mp hq).1
  exact hP k q (by rw [List.getElem?_append_left hk]; exact hq)
theorem k_dL (hD : va_D A (w1 ++ wb)) : va_D A w1 := by
  refine ⟨fun i j x y hx hy hxy => ?_, fun k q hq => ?_⟩
  · have hi : i < w1.length := (List.getElem?_eq_some_iff.mp hx).1
    have hj : j < w1.length := (List.getElem?_eq_some_iff.mp hy).1
    exact hD.1 i j x y (by rw [List.getElem?_append_left hi]; exact hx) (by rw [List.getElem?_append_left hj]; exact hy) hxy
  · have hk : k < w1.length := (List.getElem?_eq_some_iff.mp hq).1
    exact hD.2 k q (by rw [List.getElem?_append_left hk]; exact hq)
theorem k_dR (hD : va_D A (w1 ++ wb)) : va_D A wb := by
  refine ⟨fun i j x y hx hy hxy => ?_, fun k q hq => ?_⟩
  · have := hD.1 (w1.length + i) (w1.length + j) x y (by rw [List.getElem?_append_right (Nat.le_add_right _ _), Nat.add_sub_cancel_left]; exact hx) (by rw [List.getElem?_append_right (Nat.le_add_right _ _), Nat.add_sub_cancel_left]; exact hy) hxy
    omega
  · exact hD.2 (w1.length + k) q (by rw [List.getElem?_append_right (Nat.le_add_right _ _), Nat.add_sub_cancel_left]; exact hq)
theorem kI.callL {post : Int32 → S → Prop} (F : CallFix p m c cc nL s args Ts own) (hc : kI l y wd rm D tys (.ref b :: As) w1 post w2 mc ms) (cw : CallW R s args own C index y bytes maxL ret wd rm mc ms n) (hK : va_K D vwCl tys s) (hP : va_P D vwCl (w1 ++ wb) H) (hD : va_D A (w1 ++ wb)) (hS : va_S A s.heap H locs) (hA : ∀ q, s.heap.size ≤ q → A q)
    (q0 ci : Nat) {T : u_T} {N : Nat} {fs : List Value} (hcl : vwCl[ci]? = some (C, T, N)) (he : w1[q0]? = some (b, .inr (ci, fs)))
    (hn : As.length = n) (hsize : ls.size = nL) (hstack : st0 = As.reverse ++ .ref b :: rest) (hW : (rest.map fun v => v.category).sum ≤ 8) (hdg : decode cc pc = .ok (.invokevirtual index, 3)) (hf : cells + mc ≤ R.cells ∧ slots + ms ≤ R.slots)
    (kk : ∀ (r : Int32) (u : S) (H1 : Heap) (locs1 : List Loc), post r u → va_P D vwCl wb H1 → va_D A wb → va_S A s.heap H1 locs1 → W p l e R s m args below meth c H1 locs1 (cells + mc) (slots + ms) Q (F0 m (pc + 3) ls (.int r :: rest))) : W p l e R s m args below meth c H locs cells slots Q (F0 m pc ls st0) := by
  have hP1 := k_pL hP
  have hD1 := k_dL hD
  have hFc := kwFree hD1 hS hA
  refine va_calli (va_runV (As := As) (rest := rest) F (hc H.size) cw ⟨kblind, va_recv hK hP1 hcl he, fun U hU hW => ⟨rfl, by rw [hU], by rw [hU]; exact hP1, va_K.moved hW.alike hK, hD1.weaken (fun _ _ _ _ => trivial)⟩⟩ rfl hn hsize hstack (lv_room hW) hdg hf) hS (fun q _ h => hFc q h) hFc (fun r u t H1 locs ht hvm hw hB hz1 hk1 hS => ?_)
  exact kk r u H1 locs hw (k_left hP hD hk1) (k_dR hD) hS
theorem kL.callL {post : Int64 → S → Prop} (F : CallFix p m c cc nL s args Ts own) (hc : kL l y wd rm D tys (.ref b :: As) w1 post w2 mc ms) (cw : CallW R s args own C index y bytes maxL ret wd rm mc ms n) (hK : va_K D vwCl tys s) (hP : va_P D vwCl (w1 ++ wb) H) (hD : va_D A (w1 ++ wb)) (hS : va_S A s.heap H locs) (hA : ∀ q, s.heap.size ≤ q → A q)
    (q0 ci : Nat) {T : u_T} {N : Nat} {fs : List Value} (hcl : vwCl[ci]? = some (C, T, N)) (he : w1[q0]? = some (b, .inr (ci, fs)))
    (hn : As.length = n) (hsize : ls.size = nL) (hstack : st0 = As.reverse ++ .ref b :: rest) (hW : (rest.map fun v => v.category).sum ≤ 8) (hdg : decode cc pc = .ok (.invokevirtual index, 3)) (hf : cells + mc ≤ R.cells ∧ slots + ms ≤ R.slots)
    (kk : ∀ (r : Int64) (u : S) (H1 : Heap) (locs1 : List Loc), post r u → va_P D vwCl wb H1 → va_D A wb → va_S A s.heap H1 locs1 → W p l e R s m args below meth c H1 locs1 (cells + mc) (slots + ms) Q (F0 m (pc + 3) ls (.long r :: rest))) : W p l e R s m args below meth c H locs cells slots Q (F0 m pc ls st0) := by
  have hP1 := k_pL hP
  have hD1 := k_dL hD
  have hFc := kwFree hD1 hS hA
  refine va_calll (va_runV (As := As) (rest := rest) F (hc H.size) cw ⟨kblind, va_recv hK hP1 hcl he, fun U hU hW => ⟨rfl, by rw [hU], by rw [hU]; exact hP1, va_K.moved hW.alike hK, hD1.weaken (fun _ _ _ _ => trivial)⟩⟩ rfl hn hsize hstack (lv_room hW) hdg hf) hS (fun q _ h => hFc q h) hFc (fun r u t H1 locs ht hvm hw hB hz1 hk1 hS => ?_)
  exact kk r u H1 locs hw (k_left hP hD hk1) (k_dR hD) hS
theorem kIE.callL {E : (Nat → Prop) → State → Heap → Prop} {post : Int32 → S → Prop} (F : CallFix p m c cc nL s args Ts own) (hc : kIE l y wd rm D tys E (.ref b :: As) w1 post w2 mc ms) (hEb : ∀ (B : Nat → Prop) (u U : State) (K : Heap), u.vm = U.vm → E B u K → E B U K) (hEw : ∀ U : State, U.heap = H → s.WarmedH U.vm → E (va_A w1 H.size) U H) (cw : CallW R s args own C index y bytes maxL ret wd rm mc ms n) (hK : va_K D vwCl tys s) (hP : va_P D vwCl (w1 ++ wb) H) (hD : va_D A (w1 ++ wb)) (hS : va_S A s.heap H locs) (hA : ∀ q, s.heap.size ≤ q → A q)
    (q0 ci : Nat) {T : u_T} {N : Nat} {fs : List Value} (hcl : vwCl[ci]? = some (C, T, N)) (he : w1[q0]? = some (b, .inr (ci, fs)))
    (hn : As.length = n) (hsize : ls.size = nL) (hstack : st0 = As.reverse ++ .ref b :: rest) (hW : (rest.map fun v => v.category).sum ≤ 8) (hdg : decode cc pc = .ok (.invokevirtual index, 3)) (hf : cells + mc ≤ R.cells ∧ slots + ms ≤ R.slots)
    (kk : ∀ (r : Int32) (u : S) (H1 : Heap) (locs1 : List Loc), post r u → va_P D vwCl wb H1 → va_D A wb → va_S A s.heap H1 locs1 → W p l e R s m args below meth c H1 locs1 (cells + mc) (slots + ms) Q (F0 m (pc + 3) ls (.int r :: rest))) : W p l e R s m args below meth c H locs cells slots Q (F0 m pc ls st0) := by
  have hP1 := k_pL hP
  have hD1 := k_dL hD
  have hFc := kwFree hD1 hS hA
  refine va_calli (va_runV (As := As) (rest := rest) F (hc H.size) cw ⟨fun a U g mk h => ⟨h.1, (kblind a U g mk ⟨h.1, h.2.1⟩).2, hEb _ U _ _ rfl h.2.2⟩, va_recv hK hP1 hcl he, fun U hU hW => ⟨rfl, ⟨by rw [hU], by rw [hU]; exact hP1, va_K.moved hW.alike hK, hD1.weaken (fun _ _ _ _ => trivial)⟩, by rw [hU]; exact hEw U hU hW⟩⟩ rfl hn hsize hstack (lv_room hW) hdg hf) hS (fun q _ h => hFc q h) hFc (fun r u t H1 locs ht hvm hw hB hz1 hk1 hS => ?_)
  exact kk r u H1 locs hw (k_left hP hD hk1) (k_dR hD) hS
end KLAW
theorem kT.same {A : Nat → Prop} {u U : State} {H : Heap} (hv : u.vm = U.vm) (h : kT A u H) : kT A U H := by
  obtain ⟨t1, t2, h1, h2, h3, h4⟩ := h
  have ha : u.vm.Alike U.vm := by rw [hv]; exact Vm.Alike.refl _
  exact ⟨t1, t2, va_Z.moved ha h1, va_T.moved ha h2, va_Z.moved ha h3, va_T.moved ha h4⟩
theorem kT.to {A B : Nat → Prop} {s U : State} {H0 H : Heap} (hW : s.WarmedH U.vm) (hk : ∀ a : Nat, a < H0.size → ¬ A a → H[a]? = H0[a]?) (hAB : ∀ q, B q → A q) (h : kT A s H0) : kT B U H := by
  obtain ⟨t1, t2, h1, h2, h3, h4⟩ := h
  exact ⟨t1, t2, ((va_Z.moved hW.alike h1).kept hk).narrow hAB, ((va_T.moved hW.alike h2).kept hk).narrow hAB, ((va_Z.moved hW.alike h3).kept hk).narrow hAB, ((va_T.moved hW.alike h4).kept hk).narrow hAB⟩

theorem lcmp_same (x : Int64) : lg_cmp x x = 0 := by
  unfold lg_cmp
  simp
