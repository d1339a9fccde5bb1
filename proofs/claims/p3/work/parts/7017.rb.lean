/-! calls from the law: the class's cells, then the reference's -/
section KLAW
variable {p : Program} {l : Launch} {e : Env} {R : Room} {s : State} {m : MethodId} {args : Array Value} {below : List Frame} {meth : Method} {c : Code} {H : Heap} {locs : List Loc} {cells slots : Nat} {Q : State → Prop} {pc : Nat} {ls : Array Slot} {rest st0 : List Value} {cc : ByteArray}
variable {y : MethodName} {bytes : ByteArray} {maxL nL mc ms n index : Nat} {ret : Option FieldType} {wd : List Cond} {rm : Room} {Ts : List Cond} {own C : String} {b : Addr} {As : List Value} {D : va_G} {tys : List (ClassId × FieldType)} {w1 wb : va_W} {S : Type} {w2 : S → va_W} {A : Nat → Prop}
theorem k_left {H1 : Heap} (hP : va_P D vwCl (w1 ++ wb) H) (hD : va_D A (w1 ++ wb)) (hk : ∀ q : Nat, q < H.size → ¬ va_A w1 H.size q → H1[q]? = H[q]?) : va_P D vwCl wb H1 := by
  intro k q hq
  have hq2 : (w1 ++ wb)[w1.length + k]? = some q := by rw [List.getElem?_append_right (Nat.le_add_right _ _), Nat.add_sub_cancel_left]; exact hq
  have h1 := hP _ _ hq2
  refine h1.kept (hk q.1 h1.lt (fun h => ?_))
  rcases h with ⟨j, e, h⟩ | h
  · have hj : j < w1.length := (List.getElem?_eq_some_iff.mp h).1
    have h2 : (w1 ++ wb)[j]? = some (q.1, e) := by rw [List.getElem?_append_left hj]; exact h
    have := hD.1 _ _ _ _ hq2 h2 rfl
    omega
  · have := h1.lt
    omega
theorem k_pL (hP : va_P D vwCl (w1 ++ wb) H) : va_P D vwCl w1 H := by
  intro k q hq
  have hk : k < w1.length := (List.getElem?_eq_some_iff.mp hq).1
  exact hP k q (by rw [List.getElem?_append_left hk]; exact hq)
theorem k_dL (hD : va_D A (w1 ++ wb)) : va_D A w1 := by
  refine ⟨fun i j x y hx hy hxy => ?_, fun k q hq => ?_⟩
  · have hi : i < w1.length := (List.getElem?_eq_some_iff.mp hx).1
    have hj : j < w1.length := (List.getElem?_eq_some_iff.mp hy).1
    exact hD.1 i j x y (by rw [List.getElem?_append_left hi]; exact hx) (by rw [List.getElem?_append_left hj]; exact hy) hxy
  · have hk : k < w1.length := (List.getElem?_eq_some_iff.mp hq).1
    exact hD.2 k q (by rw [List.getElem?_append_left hk]; exact hq)
theorem k_dR (hD : va_D A (w1 ++ wb)) : va_D A wb := by
  refine ⟨fun i j x y hx hy hxy => ?_, fun k q hq => ?_⟩
  · have := hD.1 (w1.length + i) (w1.length + j) x y (by rw [List.getElem?_append_right (Nat.le_add_right _ _), Nat.add_sub_cancel_left]; exact hx) (by rw [List.getElem?_append_right (Nat.le_add_right _ _), Nat.add_sub_cancel_left]; exact hy) hxy
    omega
  · exact hD.2 (w1.length + k) q (by rw [List.getElem?_append_right (Nat.le_add_right _ _), Nat.add_sub_cancel_left]; exact hq)
theorem k_both {H1 : Heap} {w2 : va_W} (hP : va_P D vwCl (w1 ++ wb) H) (hD : va_D A (w1 ++ wb)) (hP2 : va_P D vwCl w2 H1) (hD2 : va_D (va_A w1 H.size) w2) (hFc : ∀ q, va_A w1 H.size q → A q) (hk : ∀ q : Nat, q < H.size → ¬ va_A w1 H.size q → H1[q]? = H[q]?) : va_P D vwCl (w2 ++ wb) H1 ∧ va_D A (w2 ++ wb) := by
  have hPb := k_left hP hD hk
  constructor
  · intro k q hq
    by_cases hk2 : k < w2.length
    · rw [List.getElem?_append_left hk2] at hq
      exact hP2 k q hq
    · rw [List.getElem?_append_right (Nat.not_lt.mp hk2)] at hq
      exact hPb _ q hq
  · refine va_D_of ?_ ?_
    · rw [List.map_append, List.nodup_append]
      refine ⟨va_D_nd hD2, va_D_nd (k_dR hD), ?_⟩
      intro x hx y hy e
      obtain ⟨p1, hp1, e1⟩ := List.mem_map.mp hx
      obtain ⟨p2, hp2, e2⟩ := List.mem_map.mp hy
      obtain ⟨j1, hj1⟩ := List.getElem?_of_mem hp1
      obtain ⟨j2, hj2⟩ := List.getElem?_of_mem hp2
      have hq2 : (w1 ++ wb)[w1.length + j2]? = some p2 := by rw [List.getElem?_append_right (Nat.le_add_right _ _), Nat.add_sub_cancel_left]; exact hj2
      have hlt := (hP _ _ hq2).lt
      have hA1 := hD2.2 j1 p1 hj1
      rcases hA1 with ⟨k, ee, h⟩ | h
      · have hk3 : k < w1.length := (List.getElem?_eq_some_iff.mp h).1
        have h2 : (w1 ++ wb)[k]? = some (p1.1, ee) := by rw [List.getElem?_append_left hk3]; exact h
        have := hD.1 _ _ _ _ hq2 h2 (by show p2.1 = p1.1; rw [e2, e1, e])
        omega
      · rw [e1, e, ← e2] at h
        omega
    · intro q hq
      rcases List.mem_append.mp hq with h | h
      · obtain ⟨j1, hj1⟩ := List.getElem?_of_mem h
        exact hFc _ (hD2.2 j1 q hj1)
      · obtain ⟨j1, hj1⟩ := List.getElem?_of_mem h
        exact (k_dR hD).2 j1 q hj1
theorem kIG.callX {K : Nat → ClassId} {post : Int32 → S → Prop} (F : CallFix p m c cc nL s args Ts own) (hc : kIG l y wd rm D K (.ref b :: As) w1 post w2 mc ms) (cw : CallW R s args own C index y bytes maxL ret wd rm mc ms n) (hV : xE K A s s.heap) (hK : va_K D vwCl (tysK K) s) (hP : va_P D vwCl (w1 ++ wb) H) (hD : va_D A (w1 ++ wb)) (hS : va_S A s.heap H locs) (hA : ∀ q, s.heap.size ≤ q → A q)
    (q0 ci : Nat) {T : u_T} {N : Nat} {fs : List Value} (hcl : vwCl[ci]? = some (C, T, N)) (he : w1[q0]? = some (b, .inr (ci, fs)))
    (hn : As.length = n) (hsize : ls.size = nL) (hstack : st0 = As.reverse ++ .ref b :: rest) (hW : (rest.map fun v => v.category).sum ≤ 8) (hdg : decode cc pc = .ok (.invokevirtual index, 3)) (hf : cells + mc ≤ R.cells ∧ slots + ms ≤ R.slots)
    (kk : ∀ (r : Int32) (u : S) (H1 : Heap) (locs1 : List Loc), post r u → va_P D vwCl (w2 u ++ wb) H1 → va_D A (w2 u ++ wb) → va_S A s.heap H1 locs1 → W p l e R s m args below meth c H1 locs1 (cells + mc) (slots + ms) Q (F0 m (pc + 3) ls (.int r :: rest))) : W p l e R s m args below meth c H locs cells slots Q (F0 m pc ls st0) := by
  have hP1 := k_pL hP
  have hD1 := k_dL hD
  have hFc := kwFree hD1 hS hA
  refine va_calli (va_runV (As := As) (rest := rest) F (hc H.size) cw ⟨xblind, va_recv hK hP1 hcl he, fun U hU hW => ⟨rfl, xpre hV hK hP1 hD1 hS hA U hU hW⟩⟩ rfl hn hsize hstack (lv_room hW) hdg hf) hS (fun q _ h => hFc q h) hFc (fun r u t H1 locs ht hvm hw hB hz1 hk1 hS => ?_)
  obtain ⟨hP2, hK1, hD2⟩ := hB
  rw [ht] at hP2
  obtain ⟨hP3, hD3⟩ := k_both hP hD hP2 hD2 hFc hk1
  exact kk r u H1 locs hw hP3 hD3 hS
theorem kLG.callX {K : Nat → ClassId} {post : Int64 → S → Prop} (F : CallFix p m c cc nL s args Ts own) (hc : kLG l y wd rm D K (.ref b :: As) w1 post w2 mc ms) (cw : CallW R s args own C index y bytes maxL ret wd rm mc ms n) (hV : xE K A s s.heap) (hK : va_K D vwCl (tysK K) s) (hP : va_P D vwCl (w1 ++ wb) H) (hD : va_D A (w1 ++ wb)) (hS : va_S A s.heap H locs) (hA : ∀ q, s.heap.size ≤ q → A q)
    (q0 ci : Nat) {T : u_T} {N : Nat} {fs : List Value} (hcl : vwCl[ci]? = some (C, T, N)) (he : w1[q0]? = some (b, .inr (ci, fs)))
    (hn : As.length = n) (hsize : ls.size = nL) (hstack : st0 = As.reverse ++ .ref b :: rest) (hW : (rest.map fun v => v.category).sum ≤ 8) (hdg : decode cc pc = .ok (.invokevirtual index, 3)) (hf : cells + mc ≤ R.cells ∧ slots + ms ≤ R.slots)
    (kk : ∀ (r : Int64) (u : S) (H1 : Heap) (locs1 : List Loc), post r u → va_P D vwCl (w2 u ++ wb) H1 → va_D A (w2 u ++ wb) → va_S A s.heap H1 locs1 → W p l e R s m args below meth c H1 locs1 (cells + mc) (slots + ms) Q (F0 m (pc + 3) ls (.long r :: rest))) : W p l e R s m args below meth c H locs cells slots Q (F0 m pc ls st0) := by
  have hP1 := k_pL hP
  have hD1 := k_dL hD
  have hFc := kwFree hD1 hS hA
  refine va_calll (va_runV (As := As) (rest := rest) F (hc H.size) cw ⟨xblind, va_recv hK hP1 hcl he, fun U hU hW => ⟨rfl, xpre hV hK hP1 hD1 hS hA U hU hW⟩⟩ rfl hn hsize hstack (lv_room hW) hdg hf) hS (fun q _ h => hFc q h) hFc (fun r u t H1 locs ht hvm hw hB hz1 hk1 hS => ?_)
  obtain ⟨hP2, hK1, hD2⟩ := hB
  rw [ht] at hP2
  obtain ⟨hP3, hD3⟩ := k_both hP hD hP2 hD2 hFc hk1
  exact kk r u H1 locs hw hP3 hD3 hS
theorem kI.callM {post : Int32 → S → Prop} (F : CallFix p m c cc nL s args Ts own) (hc : kI l y wd rm D tys (.ref b :: As) wb post w2 mc ms) (cw : CallW R s args own C index y bytes maxL ret wd rm mc ms n) (hK : va_K D vwCl tys s) (hP : va_P D vwCl (w1 ++ wb) H) (hD : va_D A (w1 ++ wb)) (hS : va_S A s.heap H locs) (hA : ∀ q, s.heap.size ≤ q → A q)
    (q0 ci : Nat) {T : u_T} {N : Nat} {fs : List Value} (hcl : vwCl[ci]? = some (C, T, N)) (he : wb[q0]? = some (b, .inr (ci, fs)))
    (hn : As.length = n) (hsize : ls.size = nL) (hstack : st0 = As.reverse ++ .ref b :: rest) (hW : (rest.map fun v => v.category).sum ≤ 8) (hdg : decode cc pc = .ok (.invokevirtual index, 3)) (hf : cells + mc ≤ R.cells ∧ slots + ms ≤ R.slots)
    (kk : ∀ (r : Int32) (u : S) (H1 : Heap) (locs1 : List Loc), post r u → va_P D vwCl (w1 ++ w2 u) H1 → va_D A (w1 ++ w2 u) → va_S A s.heap H1 locs1 → W p l e R s m args below meth c H1 locs1 (cells + mc) (slots + ms) Q (F0 m (pc + 3) ls (.int r :: rest))) : W p l e R s m args below meth c H locs cells slots Q (F0 m pc ls st0) := by
  have hP0 : va_P D vwCl (wb ++ w1) H := va_P_pm List.perm_append_comm hP
  have hD0 : va_D A (wb ++ w1) := va_D_pm List.perm_append_comm hD
  have hP1 := k_pL hP0
  have hD1 := k_dL hD0
  have hFc := kwFree hD1 hS hA
  refine va_calli (va_runV (As := As) (rest := rest) F (hc H.size) cw ⟨kblind, va_recv hK hP1 hcl he, fun U hU hW => ⟨rfl, by rw [hU], by rw [hU]; exact hP1, va_K.moved hW.alike hK, hD1.weaken (fun _ _ _ _ => trivial)⟩⟩ rfl hn hsize hstack (lv_room hW) hdg hf) hS (fun q _ h => hFc q h) hFc (fun r u t H1 locs ht hvm hw hB hz1 hk1 hS => ?_)
  obtain ⟨hP2, hK1, hD2⟩ := hB
  rw [ht] at hP2
  obtain ⟨hP3, hD3⟩ := k_both hP0 hD0 hP2 hD2 hFc hk1
  exact kk r u H1 locs hw (va_P_pm List.perm_append_comm hP3) (va_D_pm List.perm_append_comm hD3) hS
theorem kL.callM {post : Int64 → S → Prop} (F : CallFix p m c cc nL s args Ts own) (hc : kL l y wd rm D tys (.ref b :: As) wb post w2 mc ms) (cw : CallW R s args own C index y bytes maxL ret wd rm mc ms n) (hK : va_K D vwCl tys s) (hP : va_P D vwCl (w1 ++ wb) H) (hD : va_D A (w1 ++ wb)) (hS : va_S A s.heap H locs) (hA : ∀ q, s.heap.size ≤ q → A q)
    (q0 ci : Nat) {T : u_T} {N : Nat} {fs : List Value} (hcl : vwCl[ci]? = some (C, T, N)) (he : wb[q0]? = some (b, .inr (ci, fs)))
    (hn : As.length = n) (hsize : ls.size = nL) (hstack : st0 = As.reverse ++ .ref b :: rest) (hW : (rest.map fun v => v.category).sum ≤ 8) (hdg : decode cc pc = .ok (.invokevirtual index, 3)) (hf : cells + mc ≤ R.cells ∧ slots + ms ≤ R.slots)
    (kk : ∀ (r : Int64) (u : S) (H1 : Heap) (locs1 : List Loc), post r u → va_P D vwCl (w1 ++ w2 u) H1 → va_D A (w1 ++ w2 u) → va_S A s.heap H1 locs1 → W p l e R s m args below meth c H1 locs1 (cells + mc) (slots + ms) Q (F0 m (pc + 3) ls (.long r :: rest))) : W p l e R s m args below meth c H locs cells slots Q (F0 m pc ls st0) := by
  have hP0 : va_P D vwCl (wb ++ w1) H := va_P_pm List.perm_append_comm hP
  have hD0 : va_D A (wb ++ w1) := va_D_pm List.perm_append_comm hD
  have hP1 := k_pL hP0
  have hD1 := k_dL hD0
  have hFc := kwFree hD1 hS hA
  refine va_calll (va_runV (As := As) (rest := rest) F (hc H.size) cw ⟨kblind, va_recv hK hP1 hcl he, fun U hU hW => ⟨rfl, by rw [hU], by rw [hU]; exact hP1, va_K.moved hW.alike hK, hD1.weaken (fun _ _ _ _ => trivial)⟩⟩ rfl hn hsize hstack (lv_room hW) hdg hf) hS (fun q _ h => hFc q h) hFc (fun r u t H1 locs ht hvm hw hB hz1 hk1 hS => ?_)
  obtain ⟨hP2, hK1, hD2⟩ := hB
  rw [ht] at hP2
  obtain ⟨hP3, hD3⟩ := k_both hP0 hD0 hP2 hD2 hFc hk1
  exact kk r u H1 locs hw (va_P_pm List.perm_append_comm hP3) (va_D_pm List.perm_append_comm hD3) hS
end KLAW
/-! what holds between the calls -/
/-- the images that are there -/
def xIm (i0 i1 : Option sX) (e4 : Nat → Int32) : Prop := (i0 = none ↔ e4 0 = 0) ∧ (i1 = none ↔ e4 1 = 0)
/-- the tape -/
def xTq (A B : Nat → Int32) : Prop := A = B ∧ ∀ j, kb (-128) (B j) 127
/-! the whole state between the calls -/
theorem sV_ce {o q : Nat} {f : Nat → Int32} {a : Nat → Nat → Int32} {k k' : Nat → Int32} (h : sV o q f a k) (e : kQe k k') : sV o q f a k' := by
  obtain ⟨⟨g1, g2, g3, g4, g5⟩, hA, hB, ⟨t0, t1, t2, t3⟩, hC⟩ := h
  refine ⟨⟨by rw [e 102 (by decide)]; exact g1, by rw [e 103 (by decide)]; exact g2, by rw [e 104 (by decide)]; exact g3, by rw [e 105 (by decide)]; exact g4, by rw [e 106 (by decide)]; exact g5⟩, fun i hi => ?_, fun i hi => ?_, ⟨by rw [e 22 (by decide)]; exact t0, by rw [e 99 (by decide)]; exact t1, by rw [e 100 (by decide)]; exact t2, by rw [e 101 (by decide)]; exact t3⟩, fun i hi => ?_⟩
  · rw [e (23 + i) (by omega), e (33 + i) (by omega), e (43 + i) (by omega), e (53 + i) (by omega), e (0 + i) (by omega)]
    exact hA i hi
  · rw [e (63 + i) (by omega), e (69 + i) (by omega), e (10 + i) (by omega), e (16 + i) (by omega), e 103 (by decide)]
    exact hB i hi
  · rw [e (75 + 3 * i) (by omega), e (76 + 3 * i) (by omega), e (77 + 3 * i) (by omega)]
    exact hC i hi
theorem lM_q {k k' : Nat → Int32} {DD : Nat → tE} (e : ∀ i, 107 ≤ i → k' i = k i) (e5 : k' 105 = k 105) (h : lM k DD) : lM k' DD := by
  intro t ht
  rw [e5] at ht
  obtain ⟨T, h1, h2⟩ := h t ht
  exact ⟨T, tQ_k e h1, by rw [e (107 + t) (by omega)]; exact h2⟩
/-- no law is longer than 400 -/
def lSm (k : Nat → Int32) : Prop := ∀ t, t < 6 → (k (107 + t)).toInt ≤ 400
theorem tOk_zz {v v' t : Int32} (h : tOk 0 v t) : tOk 0 v' t := by
  rcases h with h | h | ⟨h, -⟩ | h
  · exact Or.inl h
  · exact Or.inr (Or.inl h)
  · exact absurd h (by decide +kernel)
  · exact Or.inr (Or.inr (Or.inr h))
theorem lM_c {k k' : Nat → Int32} {DD : Nat → tE} (hk : kK k) (hs : lSm k) (e : ∀ i, i < 5714 → k' i = k i) (h : lM k DD) : lM k' DD := by
  intro t ht
  rw [e 105 (by decide)] at ht
  obtain ⟨T, h1, h2⟩ := h t ht
  have b5 := (kK_r hk 105 0 6 (by decide) (by decide)).2
  have t6 : t < 6 := by omega
  have s1 := hs t t6
  refine ⟨T, fun i => ?_, by rw [e (107 + t) (by omega)]; exact h2⟩
  have w := h1 i
  by_cases c : i < 400
  · have e1 : mC k' t i = mC k t i := by
      unfold mC
      rw [e (107 + t) (by omega), e (114 + 400 * t + i) (by omega)]
    have e2 : mV k' t i = mV k t i := by unfold mV; exact e _ (by omega)
    rw [e1, e2]
    exact w
  · have e0 : mC k t i = 0 := by unfold mC; rw [if_neg (by omega)]
    have e1 : mC k' t i = 0 := by unfold mC; rw [if_neg (by rw [e (107 + t) (by omega)]; omega)]
    rw [e0] at w
    rw [e1]
    exact tOk_zz w
theorem lSm_c {k k' : Nat → Int32} (e : ∀ i, i < 5714 → k' i = k i) (h : lSm k) : lSm k' := fun t ht => by rw [e (107 + t) (by omega)]; exact h t ht
theorem mI_sm {f : Nat → Int32} {a : Nat → Nat → Int32} (h : mI f a) : lSm (a 2) := by
  intro t ht
  have w := (h.2.1 2 (107 + t)).2
  have e : mBa 2 (107 + t) = mB2 (107 + t) := rfl
  have e2 : ∀ t, t < 6 → mB2 (107 + t) = (0, 400) := by decide
  rw [e, e2 t ht] at w
  exact w
theorem kK_c {k k' : Nat → Int32} (e : ∀ i, i < 5714 → k' i = k i) (h : kK k) : kK k' := kQe_kK (fun i hi => e i (by omega)) h
theorem xP_nb {kp nx : Int32} {R : Nat → Int32} {P : pS} {nb nb' : Nat} (h : xPs kp nx R P nb) (e : P.1 = 0) : xPs kp nx R P nb' := ⟨h.1, h.2.1, h.2.2.1, h.2.2.2.1, fun j hj => absurd hj (by omega)⟩
/-- the class's site and past against the reference's -/
def rlS (K : Nat → ClassId) (tt : va_W) (f : Nat → Int32) (a : Nat → Nat → Int32) (g15 : Nat → Option Nat) (ef : Nat → Int32) (ea : Nat → Nat → Int32) : Prop := ∃ (DD : Nat → tE) (P : pS), sV 32 2 f a (ea 2) ∧ kK (ea 2) ∧ (ea 2 22).toInt ≤ 999 ∧ lM (ea 2) DD ∧ lC K tt g15 (ea 2) DD ∧ xPs (f 704) (f 705) (a 23) P (kBn (ea 2)) ∧ mPs (ef 33) (ea 31) P ∧ pOK (ea 2) P
def imK (e3 : Nat → Int32) (n : Nat) : Nat → Int32 := fun q => e3 (5714 * n + q)
/-- an image against the reference's -/
def rlI (K : Nat → ClassId) (tt : va_W) (i : Option sX) (k : Nat → Int32) : Prop := ∀ s, i = some s → ∃ DD : Nat → tE, sV 3040 96 s.2.1 s.2.2.1 k ∧ kK k ∧ (k 22).toInt ≤ 999 ∧ lM k DD ∧ lC K tt (s.2.2.2.2 109) k DD ∧ lSm k
theorem rlI_n {K : Nat → ClassId} {tt : va_W} {k : Nat → Int32} : rlI K tt none k := fun s e => by cases e
theorem rlI_w {K : Nat → ClassId} {tt ty : va_W} {i : Option sX} {k : Nat → Int32} (h : rlI K tt i k) (w : ∀ c ∈ tt, c ∈ ty) : rlI K ty i k := fun s e => by
  obtain ⟨DD, h1, h2, h3, h4, h5, h6⟩ := h s e
  exact ⟨DD, h1, h2, h3, h4, lC_w h5 w, h6⟩
theorem rlI_q {K : Nat → ClassId} {tt : va_W} {i j : Option sX} {k : Nat → Int32} (h : rlI K tt i k) (q : iQ i j) : rlI K tt j k := by
  intro t et
  cases i with
  | none => rw [et] at q; exact q.elim
  | some s =>
    rw [et] at q
    obtain ⟨q1, q2, q3⟩ := q
    obtain ⟨DD, h1, h2, h3, h4, h5, h6⟩ := h s rfl
    exact ⟨DD, sV_cg h1 (q1 _ (by decide)) (q1 _ (by decide)) (q1 _ (by decide)) (q1 _ (by decide)) (q1 _ (by decide)) (fun j hj => q2 _ (by omega)), h2, h3, h4, lC_cg h5 (q3 109 (by decide)), h6⟩
def smFx (f f1 : Nat → Int32) : Prop := f1 32 = f 32 ∧ f1 38 = f 38 ∧ f1 44 = f 44 ∧ f1 49 = f 49 ∧ f1 50 = f 50 ∧ f1 704 = f 704 ∧ f1 705 = f 705
def smRx (a a1 : Nat → Nat → Int32) : Prop := a1 23 = a 23 ∧ ∀ j, j < 13 → a1 (2 + j) = a (2 + j)
theorem nc_all {L M : List Nat} (w : (M.all (fun k => !(L.contains k))) = true) {k : Nat} (hk : k ∈ M) : L.contains k = false := by
  have e := List.all_eq_true.mp w k hk
  cases c : L.contains k with
  | false => rfl
  | true => rw [c] at e; cases e
theorem smFy {L : xL} {f f1 : Nat → Int32} {a a1 : Nat → Nat → Int32} {g g1 : xG} (h : xEk L f a g f1 a1 g1) (w : ([32, 38, 44, 49, 50, 704, 705].all (fun k => !(L.1.contains k))) = true) : smFx f f1 := by
  have q : ∀ k, k ∈ [32, 38, 44, 49, 50, 704, 705] → f1 k = f k := fun k hk => h.1 k (nc_all w hk)
  exact ⟨q 32 (by decide), q 38 (by decide), q 44 (by decide), q 49 (by decide), q 50 (by decide), q 704 (by decide), q 705 (by decide)⟩
theorem smRy {L : xL} {f f1 : Nat → Int32} {a a1 : Nat → Nat → Int32} {g g1 : xG} (h : xEk L f a g f1 a1 g1) (w : ([2, 3, 4, 5, 6, 7, 8, 9, 10, 11, 12, 13, 14, 23].all (fun k => !(L.2.1.contains k))) = true) : smRx a a1 := by
  have q : ∀ k, k ∈ [2, 3, 4, 5, 6, 7, 8, 9, 10, 11, 12, 13, 14, 23] → a1 k = a k := fun k hk => h.2.1 k (nc_all w hk)
  have h13 : ∀ j, j < 13 → 2 + j ∈ [2, 3, 4, 5, 6, 7, 8, 9, 10, 11, 12, 13, 14, 23] := by decide
  exact ⟨q 23 (by decide), fun j hj => q (2 + j) (h13 j hj)⟩
section RS
variable {K : Nat → ClassId} {tt ty : va_W} {f f1 : Nat → Int32} {a a1 : Nat → Nat → Int32} {g15 g15' : Nat → Option Nat} {ef ef2 : Nat → Int32} {ea ea2 : Nat → Nat → Int32} {DD : Nat → tE} {P P' : pS} {v1 v2 x y z w : Int32} {k' C0 R0 : Nat → Int32}
theorem rlS_k (h : rlS K tt f a g15 ef ea) (e : smFx f f1) (er : smRx a a1) (e15 : g15' = g15) (e2 : ea2 2 = ea 2) (e33 : ef2 33 = ef 33) (e31 : ea2 31 = ea 31) : rlS K tt f1 a1 g15' ef2 ea2 := by
  obtain ⟨DD, P, h1, h2, h3, h4, h5, h6, h7, h8⟩ := h
  obtain ⟨c1, c2, c3, c4, c5, c6, c7⟩ := e
  refine ⟨DD, P, ?_, ?_, ?_, ?_, ?_, ?_, ?_, ?_⟩
  · rw [e2]; exact sV_cg h1 c1 c2 c3 c4 c5 er.2
  · rw [e2]; exact h2
  · rw [e2]; exact h3
  · rw [e2]; exact h4
  · rw [e2, e15]; exact h5
  · rw [e2]; exact xP_cg h6 c6 c7 er.1
  · rw [e33, e31]; exact h7
  · rw [e2]; exact h8
/-- deeds -/
theorem rlS_d {R : dR} (o : dOK (ea 2) R) (hx : xDd 32 2 v1 f1 a1 R (kBn (ea 2))) (hm : mDd v2 ef2 ea2 R) (hk : kK (ea 2)) (hlm : lM (ea 2) DD) (hlc : lC K tt g15 (ea 2) DD) (eg : g15' = g15) : rlS K tt f1 a1 g15' ef2 ea2 := by
  obtain ⟨o1, o2, o3, o4⟩ := o
  have e2 : ea2 2 = R.2.1 := hm.2.1
  refine ⟨DD, R.2.2, ?_, ?_, ?_, ?_, ?_, ?_, hm.2.2, ?_⟩
  · rw [e2]; exact hx.2.1
  · rw [e2]; exact o1
  · rw [e2]; exact o3
  · rw [e2]; exact lM_k o2 hlm
  · rw [e2]; exact lC_6 hk hlc (fun i _ => by rw [eg]) (o2 105 (by decide))
  · have e : kBn R.2.1 = kBn (ea 2) := by unfold kBn; rw [o2 103 (by decide)]
    rw [e2, e]; exact hx.2.2
  · rw [e2]; exact o4
theorem dd_st {R : dR} {nb : Nat} {b : Bool} (hx : xTp 32 2 v1 f1 a1 C0 R nb b) (hm : mTp v2 ef2 ea2 R0 R b) (hr : rfE C0 R0) : v1 = v2 ∧ f1 16 = ef2 0 ∧ rfE (a1 94) (ea2 1) := by
  have hv : v1 = v2 := Int32.toInt_inj.mp (hx.1.1.trans hm.1.1.symm)
  refine ⟨hv, ?_, ?_⟩
  · rw [hx.2.1, hm.2.1, hv]
  · rw [hm.2.2]; exact hx.2.2 _ hr
theorem ud_b {k : Nat → Int32} (hp : ∀ j, j < P.1 → 0 ≤ (P.2.1 j).toInt) : decide (P.1 = 0) = decide ((udF k P).1 < 0) := by
  unfold udF
  by_cases c : P.1 = 0
  · rw [if_pos c, decide_eq_true c]; rfl
  · rw [if_neg c, decide_eq_false c]
    have w := hp (P.1 - 1) (by omega)
    exact (decide_eq_false (by show ¬ (P.2.1 (P.1 - 1)).toInt < 0; omega)).symm
/-- a change that cannot be refused -/
theorem rlS_u (hs : sV 32 2 f1 a1 k') (ho : kK k' ∧ (k' 22).toInt ≤ 999 ∧ lM k' DD ∧ k' 105 = ea 2 105 ∧ pOK k' P ∧ kBn k' = kBn (ea 2)) (hk : kK (ea 2)) (hlc : lC K tt g15 (ea 2) DD) (hxp : xPs (f1 704) (f1 705) (a1 23) P (kBn (ea 2))) (hmp : mPs (ef2 33) (ea2 31) P) (eg : g15' = g15) (e2 : ea2 2 = k') : rlS K tt f1 a1 g15' ef2 ea2 := by
  obtain ⟨o1, o2, o3, o4, o5, o6⟩ := ho
  refine ⟨DD, P, ?_, ?_, ?_, ?_, ?_, ?_, hmp, ?_⟩
  · rw [e2]; exact hs
  · rw [e2]; exact o1
  · rw [e2]; exact o2
  · rw [e2]; exact o3
  · rw [e2]; exact lC_6 hk hlc (fun i _ => by rw [eg]) o4
  · rw [e2, o6]; exact hxp
  · rw [e2]; exact o5
/-- what is told -/
theorem rlS_t (hx : xTe 32 2 v1 f1 a1 C0 (ea 2) P k' P' (kBn (ea 2))) (hm : mTe v2 ef2 ea2 R0 (ea 2) P k' P') (hv : v1 = v2) (hk : kK (ea 2)) (h22 : (ea 2 22).toInt ≤ 999) (hlm : lM (ea 2) DD) (hlc : lC K tt g15 (ea 2) DD) (hp : pOK (ea 2) P) (eg : g15' = g15) (hr : rfE C0 R0) (hok : ¬ v1.toInt < 0 → kK k' ∧ (k' 22).toInt ≤ 999 ∧ lM k' DD ∧ k' 105 = ea 2 105 ∧ pOK k' P' ∧ (kBn k' = kBn (ea 2) ∨ P'.1 = 0)) : rlS K tt f1 a1 g15' ef2 ea2 ∧ f1 16 = ef2 0 ∧ rfE (a1 94) (ea2 1) := by
  rcases hx with ⟨x1, x2, x3, x4, x5⟩ | ⟨x1, x2, x3, x4, x5⟩ <;> rcases hm with ⟨m1, m2, m3, m4, m5⟩ | ⟨m1, m2, m3, m4, m5⟩
  · exact ⟨rlS_u x2 ⟨hk, h22, hlm, rfl, hp, rfl⟩ hk hlc x3 m5 eg m4, by rw [x4, m2, hv], by rw [m3, ← hv]; exact x5 _ hr⟩
  · exact absurd (hv ▸ x1) m1
  · exact absurd (hv ▸ m1) x1
  · obtain ⟨o1, o2, o3, o4, o5, o6⟩ := hok x1
    refine ⟨⟨DD, P', ?_, ?_, ?_, ?_, ?_, ?_, m5, ?_⟩, ?_, ?_⟩
    · rw [m4]; exact x2
    · rw [m4]; exact o1
    · rw [m4]; exact o2
    · rw [m4]; exact o3
    · rw [m4]; exact lC_6 hk hlc (fun i _ => by rw [eg]) o4
    · rw [m4]
      rcases o6 with o6 | o6
      · rw [o6]; exact x3
      · exact xP_nb x3 o6
    · rw [m4]; exact o5
    · rw [x4, m2]
    · rw [m3]; exact x5 _ hr
section OKS
variable {k : Nat → Int32}
theorem prt_n (hk : kK k) (h : okPm x y z w (k 102)) (h9 : (k 102).toInt ≤ 9) (h22 : (k 22).toInt ≤ 999) (hlm : lM k DD) : kK (prtK k (k 102).toInt.toNat x y z w) ∧ (prtK k (k 102).toInt.toNat x y z w 22).toInt ≤ 999 ∧ lM (prtK k (k 102).toInt.toNat x y z w) DD ∧ prtK k (k 102).toInt.toNat x y z w 105 = k 105 ∧ pOK (prtK k (k 102).toInt.toNat x y z w) (noP P) ∧ (kBn (prtK k (k 102).toInt.toNat x y z w) = kBn k ∨ (noP P).1 = 0) := by
  have b := (kK_r hk 102 0 10 (by decide) (by decide)).1
  have hn : (k 102).toInt.toNat < 10 := by omega
  have e : ∀ i, i = 22 ∨ 103 ≤ i → prtK k (k 102).toInt.toNat x y z w i = k i := fun i hi => prtK_n hn (by omega) (by omega) (by omega) (by omega) (by omega) (by omega)
  exact ⟨kK_prt hk h (by omega), by rw [e 22 (Or.inl rfl)]; exact h22, lM_q (fun i hi => e i (by omega)) (e 105 (by decide)) hlm, e 105 (by decide), pOK_no, Or.inr rfl⟩
theorem bld_n (hk : kK k) (h : bOK x y) (h9 : (k 103).toInt ≤ 5) (h22 : (k 22).toInt ≤ 999) (hlm : lM k DD) : kK (bldK k (k 103).toInt.toNat x y) ∧ (bldK k (k 103).toInt.toNat x y 22).toInt ≤ 999 ∧ lM (bldK k (k 103).toInt.toNat x y) DD ∧ bldK k (k 103).toInt.toNat x y 105 = k 105 ∧ pOK (bldK k (k 103).toInt.toNat x y) (noP P) ∧ (kBn (bldK k (k 103).toInt.toNat x y) = kBn k ∨ (noP P).1 = 0) := by
  have b := (kK_r hk 103 0 6 (by decide) (by decide)).1
  have hn : (k 103).toInt.toNat < 6 := by omega
  have e : ∀ i, i = 22 ∨ 104 ≤ i → bldK k (k 103).toInt.toNat x y i = k i := fun i hi => bldK_m hn (by omega) (by omega) (by omega) (by omega) (by omega)
  exact ⟨kK_bld hk h (by omega), by rw [e 22 (Or.inl rfl)]; exact h22, lM_q (fun i hi => e i (by omega)) (e 105 (by decide)) hlm, e 105 (by decide), pOK_no, Or.inr rfl⟩
theorem sgt_n (hk : kK k) (hs : sOK x z) (hi : pIn y (k 102)) (h9 : (k 104).toInt ≤ 7) (h22 : (k 22).toInt ≤ 999) (hlm : lM k DD) (hp : pOK k P) : kK (sgtK k (k 104).toInt.toNat x y z) ∧ (sgtK k (k 104).toInt.toNat x y z 22).toInt ≤ 999 ∧ lM (sgtK k (k 104).toInt.toNat x y z) DD ∧ sgtK k (k 104).toInt.toNat x y z 105 = k 105 ∧ pOK (sgtK k (k 104).toInt.toNat x y z) P ∧ (kBn (sgtK k (k 104).toInt.toNat x y z) = kBn k ∨ P.1 = 0) := by
  have b := (kK_r hk 104 0 8 (by decide) (by decide)).1
  have b2 := (kK_r hk 102 0 10 (by decide) (by decide)).2
  have hn : (k 104).toInt.toNat < 8 := by omega
  have e : ∀ i, i < 75 ∨ (99 ≤ i ∧ ¬ i = 104) → sgtK k (k 104).toInt.toNat x y z i = k i := fun i hi => sgtK_m hn (by omega) (by omega) (by omega) (by omega)
  obtain ⟨⟨x1, x2⟩, z1, z2⟩ := hs
  obtain ⟨y1, y2⟩ := hi
  have hK := kK_sgt (x := x) (y := y) (z := z) hk ⟨⟨x1, x2⟩, ⟨y1, by omega⟩, ⟨z1, by omega⟩⟩ (by omega)
  have e102 : sgtK k (k 104).toInt.toNat x y z 102 = k 102 := sgtK_m hn (by omega) (by omega) (by omega) (by omega)
  have e103 : sgtK k (k 104).toInt.toNat x y z 103 = k 103 := sgtK_m hn (by omega) (by omega) (by omega) (by omega)
  exact ⟨hK, by rw [e 22 (by decide)]; exact h22, lM_q (fun i hi => e i (by omega)) (e 105 (by decide)) hlm, e 105 (by decide), pOK_k hp hK e102, Or.inl (by unfold kBn; rw [e103])⟩
theorem trI_c (h : trO x y) : trI x = 22 ∧ y.toInt ≤ 999 ∨ trI x = 99 ∨ trI x = 100 ∨ trI x = 101 := by
  have e1 : (1 : Int32).toInt.toNat = 1 := by decide +kernel
  have e2 : (2 : Int32).toInt.toNat = 2 := by decide +kernel
  have e3 : (3 : Int32).toInt.toNat = 3 := by decide +kernel
  unfold trI
  rcases h with ⟨h, h1, h2⟩ | ⟨h, h1, h2⟩ | ⟨h, h1, h2⟩ | ⟨h, h1, h2⟩
  · rw [if_pos h]; exact Or.inl ⟨rfl, h2⟩
  · rw [h, if_neg (by decide +kernel), e1]; exact Or.inr (Or.inl rfl)
  · rw [h, if_neg (by decide +kernel), e2]; exact Or.inr (Or.inr (Or.inl rfl))
  · rw [h, if_neg (by decide +kernel), e3]; exact Or.inr (Or.inr (Or.inr rfl))
theorem trm_n (hk : kK k) (h : trO x y) (h22 : (k 22).toInt ≤ 999) (hlm : lM k DD) : kK (upd k (trI x) y) ∧ (upd k (trI x) y 22).toInt ≤ 999 ∧ lM (upd k (trI x) y) DD ∧ upd k (trI x) y 105 = k 105 ∧ pOK (upd k (trI x) y) (noP P) ∧ (kBn (upd k (trI x) y) = kBn k ∨ (noP P).1 = 0) := by
  have c := trI_c h
  have e : ∀ i, 102 ≤ i → upd k (trI x) y i = k i := fun i hi => pk_un (by omega)
  refine ⟨kK_trm hk h, ?_, lM_q (fun i hi => e i (by omega)) (e 105 (by decide)) hlm, e 105 (by decide), pOK_no, Or.inr rfl⟩
  rcases c with ⟨c, c2⟩ | c
  · rw [c, pk_us]; exact c2
  · rw [pk_un (show 22 ≠ trI x by omega)]; exact h22
theorem up_n {t : Nat} (hK : kK (upd k t y)) (ht : t = 104 ∨ t = 106) (h22 : (k 22).toInt ≤ 999) (hlm : lM k DD) (hp : pOK k P) : kK (upd k t y) ∧ (upd k t y 22).toInt ≤ 999 ∧ lM (upd k t y) DD ∧ upd k t y 105 = k 105 ∧ pOK (upd k t y) P ∧ kBn (upd k t y) = kBn k := by
  have e : ∀ i, ¬ i = t → upd k t y i = k i := fun i hi => pk_un hi
  exact ⟨hK, by rw [e 22 (by omega)]; exact h22, lM_q (fun i hi => e i (by omega)) (e 105 (by omega)) hlm, e 105 (by omega), pOK_k hp hK (e 102 (by omega)), by unfold kBn; rw [e 103 (by omega)]⟩
end OKS
theorem rlS_f {n n' : Int32} (hx : (v1 = -2 ∧ sV 32 2 f1 a1 (ea 2) ∧ xPs (f1 704) (f1 705) (a1 23) P (kBn (ea 2)) ∧ f1 16 = v1 ∧ ∀ R1, rfE C0 R1 → rfE (a1 94) (rfS (-2 : Int32).toInt R1)) ∨ (¬ v1 = -2 ∧ sV 32 2 f1 a1 (upd (ea 2) 106 x) ∧ xPs (f1 704) (f1 705) (a1 23) P (kBn (ea 2)) ∧ f1 16 = 0 ∧ ∀ R1, rfE C0 R1 → rfE (a1 94) R1)) (hm : (v2 = -2 ∧ ef2 0 = v2 ∧ ea2 1 = rfS (-2 : Int32).toInt R0 ∧ ea2 2 = ea 2 ∧ mPs (ef2 33) (ea2 31) P) ∨ (¬ v2 = -2 ∧ ef2 0 = 0 ∧ ea2 1 = R0 ∧ ea2 2 = upd (ea 2) 106 x ∧ mPs (ef2 33) (ea2 31) P)) (hv : v1 = v2) (hf : frcP x v2 (ea 2 105) n n') (hk : kK (ea 2)) (h22 : (ea 2 22).toInt ≤ 999) (hlm : lM (ea 2) DD) (hlc : lC K tt g15 (ea 2) DD) (hp : pOK (ea 2) P) (eg : g15' = g15) (hr : rfE C0 R0) : rlS K tt f1 a1 g15' ef2 ea2 ∧ f1 16 = ef2 0 ∧ rfE (a1 94) (ea2 1) := by
  rcases hx with ⟨x1, x2, x3, x4, x5⟩ | ⟨x1, x2, x3, x4, x5⟩ <;> rcases hm with ⟨m1, m2, m3, m4, m5⟩ | ⟨m1, m2, m3, m4, m5⟩
  · exact ⟨rlS_u x2 ⟨hk, h22, hlm, rfl, hp, rfl⟩ hk hlc x3 m5 eg m4, by rw [x4, m2, hv], by rw [m3]; exact x5 _ hr⟩
  · exact absurd (hv ▸ x1) m1
  · exact absurd (hv ▸ m1) x1
  · have hx : -1 ≤ x.toInt ∧ x.toInt ≤ (ea 2 105).toInt - 1 := by
      rcases hf with ⟨q, -⟩ | ⟨-, q, -⟩
      · exact absurd q m1
      · exact q
    exact ⟨rlS_u x2 (up_n (kK_frc hk hx) (Or.inr rfl) h22 hlm hp) hk hlc x3 m5 eg m4, by rw [x4, m2], by rw [m3]; exact x5 _ hr⟩
/-- rows -/
theorem rwX_k {A k0 : Nat → Int32} : ∀ {j : Nat} {k' : Nat → Int32}, rwX A k0 j k' → ∀ i, i = 22 ∨ 103 ≤ i → k' i = k0 i
  | 0, k', h, i, _ => by
    have h : k' = k0 := h
    rw [h]
  | j + 1, k', h, i, hi => by
    obtain ⟨kj, h1, h2⟩ := h
    have ih := rwX_k h1 i hi
    rcases h2 with ⟨h2, h3⟩ | ⟨h2, h3⟩
    · have hn := h2.1
      rw [h3, prtK_n hn (by omega) (by omega) (by omega) (by omega) (by omega) (by omega)]
      exact ih
    · rw [h3]; exact ih
theorem rlS_r {t : Int32} {T : Nat → Int32} (hT : ∀ j, kb (-128) (T j) 127) (hx : (t = 0 ∧ v1 = -6 ∧ f1 16 = -6 ∧ (∀ R1, rfE C0 R1 → rfE (a1 94) (rfS (-6 : Int32).toInt R1)) ∧ sV 32 2 f1 a1 (ea 2) ∧ xPs (f1 704) (f1 705) (a1 23) P (kBn (ea 2))) ∨ (¬ t = 0 ∧ f1 16 = 0 ∧ (∀ R1, rfE C0 R1 → rfE (a1 94) R1) ∧ ∃ k9 : Nat → Int32, rwX T (ea 2) (t.toInt.toNat / 4) k9 ∧ kK k9 ∧ sV 32 2 f1 a1 k9 ∧ xPs (f1 704) (f1 705) (a1 23) (noP P) (kBn (ea 2)))) (hm : (v2 = -6 ∧ ef2 0 = -6 ∧ ea2 1 = rfS (-6) R0 ∧ ea2 2 = ea 2 ∧ mPs (ef2 33) (ea2 31) P) ∨ (¬ t = 0 ∧ ef2 0 = 0 ∧ ea2 1 = R0 ∧ rwP T (ea 2) (t.toInt.toNat / 4) (ea2 2) ∧ mPs (ef2 33) (ea2 31) (noP P))) (hv6 : ¬ t = 0 → ¬ v2 = -6) (hk : kK (ea 2)) (h22 : (ea 2 22).toInt ≤ 999) (hlm : lM (ea 2) DD) (hlc : lC K tt g15 (ea 2) DD) (hp : pOK (ea 2) P) (eg : g15' = g15) (hr : rfE C0 R0) : rlS K tt f1 a1 g15' ef2 ea2 ∧ f1 16 = ef2 0 ∧ rfE (a1 94) (ea2 1) := by
  have e6 : (-6 : Int32).toInt = -6 := by decide +kernel
  rcases hx with ⟨x1, x2, x3, x4, x5, x6⟩ | ⟨x1, x3, x4, k9, x5, x6, x7, x8⟩ <;> rcases hm with ⟨m1, m2, m3, m4, m5⟩ | ⟨m1, m2, m3, m4, m5⟩
  · exact ⟨rlS_u x5 ⟨hk, h22, hlm, rfl, hp, rfl⟩ hk hlc x6 m5 eg m4, by rw [x3, m2], by rw [m3, ← e6]; exact x4 _ hr⟩
  · exact absurd x1 m1
  · exact absurd m1 (hv6 x1)
  · have e2 : ea2 2 = k9 := rwP_det m4 (rwXP hT x5)
    have e := rwX_k x5
    have e3 : kBn k9 = kBn (ea 2) := by unfold kBn; rw [e 103 (by decide)]
    exact ⟨rlS_u (P := noP P) x7 ⟨x6, by rw [e 22 (Or.inl rfl)]; exact h22, lM_q (fun i hi => e i (by omega)) (e 105 (by decide)) hlm, e 105 (by decide), pOK_no, e3⟩ hk hlc x8 m5 eg e2, by rw [x3, m2], by rw [m3]; exact x4 _ hr⟩
theorem rSt_ge {ok : Nat → Nat → Prop} {n0 : Nat} : ∀ k n, rSt ok n0 k n → n0 ≤ n
  | 0, n, h => by
    have h : n = n0 := h
    omega
  | k + 1, n, h => by
    obtain ⟨m, h1, h2⟩ := h
    have w := rSt_ge k m h1
    rcases h2 with ⟨_, h2⟩ | ⟨_, h2⟩ <;> omega
theorem row_6 {ok : Nat → Nat → Prop} {t n n' c c' : Int32} (h : rowP ok t v1 n n' c c') (hb : kb 0 n 10) (ht : ¬ t = 0) : ¬ v1 = -6 := by
  rcases h with ⟨h, -⟩ | ⟨-, m, hr, h, -, -⟩
  · exact absurd h ht
  · intro e
    have e6 : (-6 : Int32).toInt = -6 := by decide +kernel
    have b1 := hb.1
    have w := rSt_ge _ _ hr
    rw [e, e6] at h
    omega
/-- laws -/
theorem law_D {T : Nat → Int32} {S : Nat} {q1 q3 q4 : Prop} {q2 : tE → Prop} (hb : v1 = -6 → ∃ p, txR false T S false p) (h5 : v1 = -5 → ea 2 105 = 6) (hx : ((v1 = -5 ∨ v1 = -6) ∧ q1) ∨ (q3 ∧ q4 ∧ ∃ Dt : tE, rdD false T S Dt ∧ q2 Dt)) : ∃ Dt : tE, (¬ ea 2 105 = 6 → rdD false T S Dt) ∧ (((v1 = -5 ∨ v1 = -6) ∧ q1) ∨ (q3 ∧ q4 ∧ q2 Dt)) := by
  rcases hx with ⟨h, hq⟩ | ⟨h3, h4, Dt, h1, h2⟩
  · refine ⟨(0, fun _ => 0, fun _ => 0, fun _ => 0, fun _ _ => none, fun _ _ => none, fun _ _ => none), fun n6 => ?_, Or.inl ⟨h, hq⟩⟩
    rcases h with h | h
    · exact absurd (h5 h) n6
    · obtain ⟨p, hp⟩ := hb h
      exact fun p2 hp2 => absurd (txR_det hp hp2).1 (by decide)
  · exact ⟨Dt, fun _ => h1, Or.inr ⟨h3, h4, h2⟩⟩
theorem law_6 {T : Nat → Int32} {sz told told' fl fl' : Int32} (h : lawPx T sz v1 told told' fl fl') (e : v1 = -6) : ∃ p, txR false T sz.toInt.toNat false p := by
  have e5 : (-5 : Int32).toInt = -5 := by decide +kernel
  have e6 : (-6 : Int32).toInt = -6 := by decide +kernel
  rcases h with ⟨_, h, _⟩ | ⟨b, bb, h, h2⟩
  · rw [e] at h; exact absurd h (by decide +kernel)
  · rcases h2 with ⟨c, _⟩ | ⟨_, c, _⟩
    · rw [c] at h; exact ⟨_, h⟩
    · rw [e] at c; rw [← c, e6] at b; omega
theorem law_5 {T : Nat → Int32} {sz told told' fl fl' : Int32} (h : lawPx T sz v1 told told' fl fl') (hb : kb 0 told 6) (e : v1 = -5) : told = 6 := by
  have e5 : (-5 : Int32).toInt = -5 := by decide +kernel
  have z6 : (6 : Int32).toInt = 6 := by decide +kernel
  have b1 := hb.1
  have b2 := hb.2
  rcases h with ⟨c, _, _⟩ | ⟨b, bb, h, h2⟩
  · exact Int32.toInt_inj.mp (by omega)
  · rcases h2 with ⟨_, c, _⟩ | ⟨_, c, _⟩
    · rw [e] at c; exact absurd c (by decide +kernel)
    · rw [e] at c; rw [← c, e5] at b; omega
theorem n_s {x : Int32} (hb : kb 0 x 6) : ¬ x + 1 = x := by
  intro e
  have w := kad1 hb (by decide) (by decide)
  rw [e] at w
  omega
theorem rlS_l {Dt : tE} {T : Nat → Int32} {sz fl fl' : Int32} {q : Prop} (hx : ((v1 = -5 ∨ v1 = -6) ∧ f1 16 = v1 ∧ (∀ R1, rfE C0 R1 → rfE (a1 94) (rfS v1.toInt R1)) ∧ sV 32 2 f1 a1 (ea 2) ∧ lC K ty g15' (ea 2) DD) ∨ (f1 16 = 0 ∧ (∀ R1, rfE C0 R1 → rfE (a1 94) R1) ∧ sV 32 2 f1 a1 (upd (ea 2) 105 (ea 2 105 + 1)) ∧ lC K ty g15' (upd (ea 2) 105 (ea 2 105 + 1)) (fun i => if i = (ea 2 105).toInt.toNat then Dt else DD i))) (hm : ((v2 = -5 ∨ v2 = -6) ∧ ef2 0 = v2 ∧ ea2 1 = rfS v2.toInt R0 ∧ ea2 2 = ea 2 ∧ mPs (ef2 33) (ea2 31) P) ∨ (q ∧ ef2 0 = 0 ∧ ea2 1 = R0 ∧ lwK DD Dt (ea 2) (ea2 2) ∧ mPs (ef2 33) (ea2 31) P)) (hv : v1 = v2) (h49 : f1 49 = ea2 2 105) (hb : lawP T sz v2 (ea 2 105) (ea2 2 105) fl fl') (hk : kK (ea 2)) (h22 : (ea 2 22).toInt ≤ 999) (hlm : lM (ea 2) DD) (hp : pOK (ea 2) P) (hxp : xPs (f1 704) (f1 705) (a1 23) P (kBn (ea 2))) (hr : rfE C0 R0) : rlS K ty f1 a1 g15' ef2 ea2 ∧ f1 16 = ef2 0 ∧ rfE (a1 94) (ea2 1) := by
  have b5 := kK_r hk 105 0 6 (by decide) (by decide)
  rcases hx with ⟨x1, x2, x3, x4, x5⟩ | ⟨x2, x3, x4, x5⟩ <;> rcases hm with ⟨m1, m2, m3, m4, m5⟩ | ⟨m1, m2, m3, m4, m5⟩
  · exact ⟨rlS_u x4 ⟨hk, h22, hlm, rfl, hp, rfl⟩ hk x5 hxp m5 rfl m4, by rw [x2, m2, hv], by rw [m3, ← hv]; exact x3 _ hr⟩
  · have w := m4.1 105 (by decide)
    have w2 : f1 49 = ea 2 105 := sv_lawCount x4
    rw [← h49, w2, pk_us] at w
    exact absurd w.symm (n_s b5)
  · have w2 : f1 49 = upd (ea 2) 105 (ea 2 105 + 1) 105 := sv_lawCount x4
    rw [h49, m4, pk_us] at w2
    exact absurd w2.symm (n_s b5)
  · have w := m4.1 105 (by decide)
    rw [pk_us] at w
    have h6 : (ea 2 105).toInt < 6 := by
      rcases hb with ⟨_, _, c, _⟩ | ⟨c, _⟩
      · rw [w] at c; exact absurd c (n_s b5)
      · have z6 : (6 : Int32).toInt = 6 := by decide +kernel
        have n6 : ¬ (ea 2 105).toInt = 6 := fun z => c (Int32.toInt_inj.mp (z.trans z6.symm))
        have b2 := b5.2
        omega
    have hK1 := kK_105 hk h6
    have hE : kQe (upd (ea 2) 105 (ea 2 105 + 1)) (ea2 2) := m4.1
    have hK2 := kQe_kK hE hK1
    have e : ∀ i, i < 107 → ¬ i = 105 → ea2 2 i = ea 2 i := fun i hi hn => (m4.1 i hi).trans (pk_un hn)
    refine ⟨⟨_, P, sV_ce x4 hE, hK2, by rw [e 22 (by decide) (by decide)]; exact h22, m4.2, lC_6 hK1 x5 (fun _ _ => rfl) (m4.1 105 (by decide)), ?_, m5, pOK_k hp hK2 (e 102 (by decide) (by decide))⟩, by rw [x2, m2], by rw [m3]; exact x3 _ hr⟩
    have e3 : kBn (ea2 2) = kBn (ea 2) := by unfold kBn; rw [e 103 (by decide) (by decide)]
    rw [e3]; exact hxp
/-- orders -/
theorem ord_D {T : Nat → Int32} {S : Nat} {q1 : Prop} {q2 : tE → Prop} (hx : (v1 = -6 ∧ (∃ p, txR true T S false p) ∧ q1) ∨ ∃ Dt : tE, rdD true T S Dt ∧ (∃ p, txR true T S true p) ∧ q2 Dt) : ∃ Dt : tE, rdD true T S Dt ∧ ((v1 = -6 ∧ (∃ p, txR true T S false p) ∧ q1) ∨ ((∃ p, txR true T S true p) ∧ q2 Dt)) := by
  rcases hx with ⟨h, ⟨p, hp⟩, hq⟩ | ⟨Dt, h1, h2, h3⟩
  · exact ⟨(0, fun _ => 0, fun _ => 0, fun _ => 0, fun _ _ => none, fun _ _ => none, fun _ _ => none), fun p2 hp2 => absurd (txR_det hp hp2).1 (by decide), Or.inl ⟨h, ⟨p, hp⟩, hq⟩⟩
  · exact ⟨Dt, h1, Or.inr ⟨h2, h3⟩⟩
theorem rlS_o {Dt : tE} {T : Nat → Int32} {S : Nat} (hx : (v1 = -6 ∧ (∃ p, txR true T S false p) ∧ f1 16 = -6 ∧ (∀ R1, rfE C0 R1 → rfE (a1 94) (rfS (-6 : Int32).toInt R1)) ∧ f1 15 = -1 ∧ sV 32 2 f1 a1 (ea 2) ∧ xPs (f1 704) (f1 705) (a1 23) P (kBn (ea 2))) ∨ ((∃ p, txR true T S true p) ∧ ((∃ s : oSt, ordA DD Dt ((ea 2, P, 0, -1) : oSt) Dt.1 = .inr s ∧ oG (ea 2) s 240 ∧ v1 = s.2.2.1 ∧ f1 16 = 0 ∧ (∀ R1, rfE C0 R1 → rfE (a1 94) R1) ∧ f1 15 = -1 ∧ sV 32 2 f1 a1 s.1 ∧ xPs (f1 704) (f1 705) (a1 23) s.2.1 (kBn (ea 2))) ∨ (∃ c : Nat, ordA DD Dt ((ea 2, P, 0, -1) : oSt) Dt.1 = .inl c ∧ v1 = -3 ∧ f1 16 = -3 ∧ (∀ R1, rfE C0 R1 → rfE (a1 94) (rfS (-3 : Int32).toInt R1)) ∧ (f1 15).toInt = (c : Int) ∧ sV 32 2 f1 a1 (ea 2) ∧ xPs (f1 704) (f1 705) (a1 23) P (kBn (ea 2)))))) (hm : (v2 = -6 ∧ (∃ p, txR true T S false p) ∧ ef2 0 = -6 ∧ ea2 1 = rfS (-6) R0 ∧ ef2 37 = -1 ∧ ea2 2 = ea 2 ∧ mPs (ef2 33) (ea2 31) P) ∨ ((∃ p, txR true T S true p) ∧ ∃ k6 : Nat → Int32, (∀ i, i < 107 → k6 i = ea 2 i) ∧ lM k6 DD ∧ ordM DD Dt k6 P R0 v2 ef2 ea2)) (hk : kK (ea 2)) (h22 : (ea 2 22).toInt ≤ 999) (hlm : lM (ea 2) DD) (hlc : lC K tt g15 (ea 2) DD) (hp : pOK (ea 2) P) (hg : ∀ i, i < 6 → g15' i = g15 i) (hr : rfE C0 R0) : rlS K tt f1 a1 g15' ef2 ea2 ∧ v1 = v2 ∧ f1 16 = ef2 0 ∧ rfE (a1 94) (ea2 1) ∧ f1 15 = ef2 37 := by
  have e6 : (-6 : Int32).toInt = -6 := by decide +kernel
  have e3 : (-3 : Int32).toInt = -3 := by decide +kernel
  have key : ∀ k' : Nat → Int32, kQe (ea 2) k' → lM k' DD → sV 32 2 f1 a1 (ea 2) → xPs (f1 704) (f1 705) (a1 23) P (kBn (ea 2)) → ea2 2 = k' → mPs (ef2 33) (ea2 31) P → rlS K tt f1 a1 g15' ef2 ea2 := by
    intro k' he hl hs hxp e2 hmp
    have hK := kQe_kK he hk
    refine ⟨DD, P, ?_, ?_, ?_, ?_, ?_, ?_, hmp, ?_⟩
    · rw [e2]; exact sV_ce hs he
    · rw [e2]; exact hK
    · rw [e2, he 22 (by decide)]; exact h22
    · rw [e2]; exact hl
    · rw [e2]; exact lC_6 hk hlc hg (he 105 (by decide))
    · rw [e2, ce_bn he]; exact hxp
    · rw [e2]; exact pOK_k hp hK (he 102 (by decide))
  rcases hx with ⟨x1, ⟨p, hpx⟩, x3, x4, x5, x6, x7⟩ | ⟨⟨p, hpx⟩, hx⟩ <;> rcases hm with ⟨m1, ⟨p', hpm⟩, m3, m4, m5, m6, m7⟩ | ⟨⟨p', hpm⟩, k6, hk6, hl6, hm⟩
  · exact ⟨key (ea 2) (kQe_rf _) hlm x6 x7 m6 m7, x1.trans m1.symm, x3.trans m3.symm, by rw [m4, ← e6]; exact x4 _ hr, x5.trans m5.symm⟩
  · exact absurd (txR_det hpx hpm).1 (by decide)
  · exact absurd (txR_det hpx hpm).1 (by decide)
  · have hs0 : sE ((ea 2, P, 0, -1) : oSt) ((k6, P, 0, -1) : oSt) := ⟨hk6, pE_rf P, rfl, hk, h22, hp⟩
    have hA := ce_ordA (DD := DD) (D := Dt) hs0 Dt.1
    rcases hx with ⟨s, x1, x2, x3, x4, x5, x6, x7, x8⟩ | ⟨c, x1, x3, x4, x5, x6, x7, x8⟩ <;> rcases hm with ⟨t, m1, m3, m4, m5, m6, m7, m8, m9, m10⟩ | ⟨c', m1, m3, m4, m5, m6, m7, m8⟩
    · rw [x1, m1] at hA
      obtain ⟨q1, q2, q3, q4, q5, q6⟩ := hA
      have hK := kQe_kK q1 q4
      have eb : kBn t.1 = kBn (ea 2) := by unfold kBn; rw [m10.2.1 103 (by decide), hk6 103 (by decide)]
      refine ⟨⟨DD, s.2.1, ?_, ?_, ?_, ?_, ?_, ?_, mPs_E m8 q2, ?_⟩, ?_, x4.trans m4.symm, by rw [m5]; exact x5 _ hr, x6.trans m6.symm⟩
      · rw [m7]; exact sV_ce x7 q1
      · rw [m7]; exact hK
      · rw [m7]; exact m9
      · rw [m7]; exact lM_k m10.2.1 hl6
      · rw [m7]; exact lC_6 hk hlc hg ((m10.2.1 105 (by decide)).trans (hk6 105 (by decide)))
      · rw [m7, eb]; exact x8
      · rw [m7]; exact pOK_k q6 hK (q1 102 (by decide))
      · rw [x3, m3, q3]
    · rw [x1, m1] at hA; exact hA.elim
    · rw [x1, m1] at hA; exact hA.elim
    · rw [x1, m1] at hA
      have hc : c' = c := hA
      exact ⟨key k6 hk6 hl6 x7 x8 m7 m8, x3.trans m3.symm, x4.trans m4.symm, by rw [m5, ← e3]; exact x5 _ hr, Int32.toInt_inj.mp (x6.trans (by rw [m6, hc]))⟩
end RS
section RI
variable {K : Nat → ClassId} {tt : va_W} {f f1 : Nat → Int32} {a a1 : Nat → Nat → Int32} {g g1 : Nat → Nat → Option Nat} {ef ef2 : Nat → Int32} {ea ea2 : Nat → Nat → Int32} {DD : Nat → tE} {P : pS} {x v1 v2 : Int32} {C0 C1 R0 k k' : Nat → Int32} {G : Nat → Option Nat} {i i0 i1 j j0 j1 : Option sX}
theorem im_n (hN : iN j k G) (hk : kK k) (h22 : (k 22).toInt ≤ 999) (hlm : lM k DD) (hlc : lC K tt G k DD) (hsm : lSm k) (e : ∀ q, q < 5714 → k' q = k q) : rlI K tt j k' := by
  intro s es
  obtain ⟨s', e', h1, h2⟩ := hN
  rw [es] at e'
  have e9 := Option.some.inj e'
  subst e9
  exact ⟨DD, sV_ce h1 (fun i hi => e i (by omega)), kK_c e hk, by rw [e 22 (by decide)]; exact h22, lM_c hk hsm e hlm, lC_6 hk hlc h2 (e 105 (by decide)), lSm_c e hsm⟩
theorem rlI_e (h : rlI K tt i k) (e : ∀ q, q < 5714 → k' q = k q) : rlI K tt i k' := by
  intro s es
  obtain ⟨DD, h1, h2, h3, h4, h5, h6⟩ := h s es
  exact ⟨DD, sV_ce h1 (fun i hi => e i (by omega)), kK_c e h2, by rw [e 22 (by decide)]; exact h3, lM_c h2 h6 e h4, lC_6 h2 h5 (fun _ _ => rfl) (e 105 (by decide)), lSm_c e h6⟩
theorem ix_0 {kx : Nat} (h : (kx : Int) = x.toInt) (e : x = 0) : kx = 0 := by
  have z0 : (0 : Int32).toInt = 0 := by decide +kernel
  rw [e, z0] at h; omega
theorem ix_1 {kx : Nat} (h : (kx : Int) = x.toInt) (e : x = 1) : kx = 1 := by
  have z0 : (1 : Int32).toInt = 1 := by decide +kernel
  rw [e, z0] at h; omega
theorem rg_0 (e : x = 0) : 0 ≤ x.toInt ∧ x.toInt ≤ 1 := by rw [e]; decide +kernel
theorem rg_1 (e : x = 1) : 0 ≤ x.toInt ∧ x.toInt ≤ 1 := by rw [e]; decide +kernel
theorem iN_some (h : iN j k G) : ¬ j = none := fun e => by obtain ⟨s, h1, -⟩ := h; rw [e] at h1; cases h1
theorem im_r (hz : imZ x v1 i0 i1 j0 j1 (ea 2) G C0 C1) (hm : (v2 = -1 ∧ ¬ (0 ≤ x.toInt ∧ x.toInt ≤ 1) ∧ ea2 3 = ea 3 ∧ ea2 4 = ea 4) ∨ (v2 = 0 ∧ ∃ kx : Nat, (kx : Int) = x.toInt ∧ kx < 2 ∧ ea2 3 = mCp (ea 2) (ea 3) 0 (5714 * kx) 5714 ∧ ea2 4 = upd (ea 4) kx 1)) (hs : (v2.toInt < 0 ∧ ea2 1 = rfS v2.toInt R0 ∧ mPs (ef2 33) (ea2 31) P) ∨ (v2 = 0 ∧ ea2 1 = R0 ∧ mPs (ef2 33) (ea2 31) P)) (hIm : xIm i0 i1 (ea 4)) (hsm : lSm (ea 2)) (hk : kK (ea 2)) (h22 : (ea 2 22).toInt ≤ 999) (hlm : lM (ea 2) DD) (hlc : lC K tt G (ea 2) DD) (h0 : rlI K tt i0 (imK (ea 3) 0)) (h1 : rlI K tt i1 (imK (ea 3) 1)) (hr : rfE C0 R0) : v1 = v2 ∧ xIm j0 j1 (ea2 4) ∧ rlI K tt j0 (imK (ea2 3) 0) ∧ rlI K tt j1 (imK (ea2 3) 1) ∧ rfE C1 (ea2 1) ∧ mPs (ef2 33) (ea2 31) P := by
  have z0 : (0 : Int32).toInt = 0 := by decide +kernel
  have z1 : ¬ (1 : Int32) = 0 := by decide +kernel
  have zn : (-1 : Int32).toInt = -1 := by decide +kernel
  have hP : mPs (ef2 33) (ea2 31) P := by rcases hs with ⟨_, _, h⟩ | ⟨_, _, h⟩ <;> exact h
  rcases hz with ⟨e1, n1, q0, q1, hR⟩ | ⟨e1, x0, q0, q1, hR⟩ | ⟨e1, x0, q0, q1, hR⟩ <;> rcases hm with ⟨e2, n2, q3, q4⟩ | ⟨e2, kx, k1, k2, q3, q4⟩
  · refine ⟨e1.trans e2.symm, by rw [q0, q1, q4]; exact hIm, by rw [q0, q3]; exact h0, by rw [q1, q3]; exact h1, ?_, hP⟩
    rcases hs with ⟨_, h, _⟩ | ⟨h, _⟩
    · rw [h, e2]; exact hR _ hr
    · rw [e2] at h; exact absurd h (by decide +kernel)
  · exact absurd ⟨by omega, by omega⟩ n1
  · exact absurd (rg_0 x0) n2
  · have hk0 := ix_0 k1 x0
    subst hk0
    have hA : rfE C1 (ea2 1) := by
      rcases hs with ⟨h, _⟩ | ⟨_, h, _⟩
      · rw [e2, z0] at h; omega
      · rw [h]; exact hR _ hr
    refine ⟨e1.trans e2.symm, ⟨⟨fun e => absurd e (iN_some q0), fun e => ?_⟩, ?_⟩, im_n q0 hk h22 hlm hlc hsm (fun q hq => ?_), ?_, hA, hP⟩
    · rw [q4, pk_us] at e; exact absurd e z1
    · rw [q1, q4, pk_un (by decide)]; exact hIm.2
    · show ea2 3 (5714 * 0 + q) = ea 2 q
      rw [q3, mCp_i (k := q) (by omega) (by omega)]
    · rw [q1]
      refine rlI_e h1 (fun q hq => ?_)
      show ea2 3 (5714 * 1 + q) = ea 3 (5714 * 1 + q)
      rw [q3, mCp_o (by omega)]
  · exact absurd (rg_1 x0) n2
  · have hk0 := ix_1 k1 x0
    subst hk0
    have hA : rfE C1 (ea2 1) := by
      rcases hs with ⟨h, _⟩ | ⟨_, h, _⟩
      · rw [e2, z0] at h; omega
      · rw [h]; exact hR _ hr
    refine ⟨e1.trans e2.symm, ⟨?_, ⟨fun e => absurd e (iN_some q1), fun e => ?_⟩⟩, ?_, im_n q1 hk h22 hlm hlc hsm (fun q hq => ?_), hA, hP⟩
    · rw [q0, q4, pk_un (by decide)]; exact hIm.1
    · rw [q4, pk_us] at e; exact absurd e z1
    · rw [q0]
      refine rlI_e h0 (fun q hq => ?_)
      show ea2 3 (5714 * 0 + q) = ea 3 (5714 * 0 + q)
      rw [q3, mCp_o (by omega)]
    · show ea2 3 (5714 * 1 + q) = ea 2 q
      rw [q3, mCp_i (k := q) (by omega) (by omega)]
theorem nF_s {Lf La Lg : List Nat} (h : nF Lf La Lg f a g f1 a1 g1) (wf : ([32, 38, 44, 49, 50, 704, 705].all (fun k => !(Lf.contains k))) = true) (wa : ([2, 3, 4, 5, 6, 7, 8, 9, 10, 11, 12, 13, 14, 23].all (fun k => !(La.contains k))) = true) (wg : Lg.contains 15 = false) : smFx f f1 ∧ smRx a a1 ∧ g1 15 = g 15 := by
  have q : ∀ k, k ∈ [32, 38, 44, 49, 50, 704, 705] → f1 k = f k := fun k hk => h.1 k (by
    have w : ∀ k, k ∈ [32, 38, 44, 49, 50, 704, 705] → k < 3040 := by decide
    exact w k hk) (nc_all wf hk)
  have p : ∀ k, k ∈ [2, 3, 4, 5, 6, 7, 8, 9, 10, 11, 12, 13, 14, 23] → a1 k = a k := fun k hk => h.2.1 k (by
    have w : ∀ k, k ∈ [2, 3, 4, 5, 6, 7, 8, 9, 10, 11, 12, 13, 14, 23] → k < 95 := by decide
    exact w k hk) (nc_all wa hk)
  have h13 : ∀ j, j < 13 → 2 + j ∈ [2, 3, 4, 5, 6, 7, 8, 9, 10, 11, 12, 13, 14, 23] := by decide
  exact ⟨⟨q 32 (by decide), q 38 (by decide), q 44 (by decide), q 49 (by decide), q 50 (by decide), q 704 (by decide), q 705 (by decide)⟩, ⟨p 23 (by decide), fun j hj => p (2 + j) (h13 j hj)⟩, h.2.2 15 (by decide) wg⟩
/-- the class is as it was, and so is the reference -/
theorem rlS_s (e : smFx f f1) (er : smRx a a1) (h1 : sV 32 2 f a (ea 2)) (hk : kK (ea 2)) (h22 : (ea 2 22).toInt ≤ 999) (hlm : lM (ea 2) DD) (hlc : lC K tt (g 15) (ea 2) DD) (hxp : xPs (f 704) (f 705) (a 23) P (kBn (ea 2))) (hp : pOK (ea 2) P) (eg : g1 15 = g 15) (e2 : ea2 2 = ea 2) (hmp : mPs (ef2 33) (ea2 31) P) : rlS K tt f1 a1 (g1 15) ef2 ea2 := by
  obtain ⟨c1, c2, c3, c4, c5, c6, c7⟩ := e
  exact rlS_u (sV_cg h1 c1 c2 c3 c4 c5 er.2) ⟨hk, h22, hlm, rfl, hp, rfl⟩ hk hlc (xP_cg hxp c6 c7 er.1) hmp eg e2
theorem bk_n {s : sX} {n : Nat} (h : rlI K tt i (imK (ea 3) n)) (es : i = some s) (hsv : sV 32 2 f1 a1 (imK (ea 3) n)) (hg : ∀ q, q < 6 → g1 15 q = s.2.2.2.2 109 q) (h4 : f1 704 = 0) (h5 : f1 705 = 0) (e2 : ea2 2 = mCp (ea 3) (ea 2) (5714 * n) 0 5714) (hmp : mPs (ef2 33) (ea2 31) (noP P)) : rlS K tt f1 a1 (g1 15) ef2 ea2 := by
  obtain ⟨DD, -, q2, q3, q4, q5, q6⟩ := h s es
  have e : ∀ q, q < 5714 → ea2 2 q = imK (ea 3) n q := fun q hq => by
    rw [e2, mCp_i (k := 5714 * n + q) (by omega) (by omega)]; rfl
  exact ⟨DD, noP P, sV_ce hsv (fun i hi => e i (by omega)), kK_c e q2, by rw [e 22 (by decide)]; exact q3, lM_c q2 q6 e q4, lC_6 q2 q5 hg (e 105 (by decide)), xP_no h4 h5, hmp, pOK_no⟩
theorem bk_r (hz : bkZ x v1 i0 i1 (imK (ea 3) 0) (imK (ea 3) 1) f a g f1 a1 g1) (hm : (v2 = -1 ∧ ¬ (0 ≤ x.toInt ∧ x.toInt ≤ 1) ∧ ea2 2 = ea 2) ∨ (v2 = -2 ∧ ∃ kx : Nat, (kx : Int) = x.toInt ∧ kx < 2 ∧ ea 4 kx = 0 ∧ ea2 2 = ea 2) ∨ (v2 = 0 ∧ ∃ kx : Nat, (kx : Int) = x.toInt ∧ kx < 2 ∧ ¬ ea 4 kx = 0 ∧ ea2 2 = mCp (ea 3) (ea 2) (5714 * kx) 0 5714)) (hs : (v2.toInt < 0 ∧ ea2 1 = rfS v2.toInt R0 ∧ mPs (ef2 33) (ea2 31) P) ∨ (v2 = 0 ∧ ea2 1 = R0 ∧ mPs (ef2 33) (ea2 31) (noP P))) (hIm : xIm i0 i1 (ea 4)) (hsv : sV 32 2 f a (ea 2)) (hk : kK (ea 2)) (h22 : (ea 2 22).toInt ≤ 999) (hlm : lM (ea 2) DD) (hlc : lC K tt (g 15) (ea 2) DD) (hxp : xPs (f 704) (f 705) (a 23) P (kBn (ea 2))) (hp : pOK (ea 2) P) (h0 : rlI K tt i0 (imK (ea 3) 0)) (h1 : rlI K tt i1 (imK (ea 3) 1)) (hr : rfE (a 94) R0) : v1 = v2 ∧ rlS K tt f1 a1 (g1 15) ef2 ea2 ∧ rfE (a1 94) (ea2 1) := by
  have z0 : (0 : Int32).toInt = 0 := by decide +kernel
  have n1 : (-1 : Int32).toInt = -1 := by decide +kernel
  have n2 : (-2 : Int32).toInt = -2 := by decide +kernel
  have neg : ∀ c : Int32, v2 = c → ¬ c = 0 → ea2 1 = rfS c.toInt R0 ∧ mPs (ef2 33) (ea2 31) P := fun c e nz => by
    rcases hs with ⟨_, h, h'⟩ | ⟨h, _⟩
    · rw [← e]; exact ⟨h, h'⟩
    · exact absurd (e.symm.trans h) nz
  have pos : v2 = 0 → ea2 1 = R0 ∧ mPs (ef2 33) (ea2 31) (noP P) := fun e => by
    rcases hs with ⟨h, _⟩ | ⟨_, h, h'⟩
    · rw [e, z0] at h; omega
    · exact ⟨h, h'⟩
  rcases hz with ⟨e1, r1, hF, hR⟩ | ⟨e1, r1, hF, hR⟩ | ⟨e1, hF, f4, f5, r1⟩ <;> rcases hm with ⟨e2, r2, q4⟩ | ⟨e2, kx, k1, k2, q3, q4⟩ | ⟨e2, kx, k1, k2, q3, q4⟩
  · obtain ⟨s1, s2, s3⟩ := nF_s hF (by decide) (by decide) rfl
    obtain ⟨p1, p2⟩ := neg _ e2 (by decide +kernel)
    exact ⟨e1.trans e2.symm, rlS_s s1 s2 hsv hk h22 hlm hlc hxp hp s3 q4 p2, by rw [p1]; exact hR _ hr⟩
  · exact absurd ⟨by omega, by omega⟩ r1
  · exact absurd ⟨by omega, by omega⟩ r1
  · rcases r1 with r | r
    · exact absurd (rg_0 r.1) r2
    · exact absurd (rg_1 r.1) r2
  · obtain ⟨s1, s2, s3⟩ := nF_s hF (by decide) (by decide) rfl
    obtain ⟨p1, p2⟩ := neg _ e2 (by decide +kernel)
    exact ⟨e1.trans e2.symm, rlS_s s1 s2 hsv hk h22 hlm hlc hxp hp s3 q4 p2, by rw [p1]; exact hR _ hr⟩
  · rcases r1 with r | r
    · rw [ix_0 k1 r.1] at q3; exact absurd (hIm.1.mp r.2) q3
    · rw [ix_1 k1 r.1] at q3; exact absurd (hIm.2.mp r.2) q3
  · rcases r1 with r | r
    · exact absurd (rg_0 r.1) r2
    · exact absurd (rg_1 r.1) r2
  · rcases r1 with ⟨r, -, s, es, -⟩ | ⟨r, -, s, es, -⟩
    · rw [ix_0 k1 r] at q3
      have w := hIm.1.mpr q3
      rw [es] at w; cases w
    · rw [ix_1 k1 r] at q3
      have w := hIm.2.mpr q3
      rw [es] at w; cases w
  · obtain ⟨p1, p2⟩ := pos e2
    have h94 : a1 94 = a 94 := hF.2.1 94 (by decide) rfl
    have hA : rfE (a1 94) (ea2 1) := by rw [h94, p1]; exact hr
    rcases r1 with ⟨r, w1, s, es, w2⟩ | ⟨r, w1, s, es, w2⟩
    · rw [ix_0 k1 r] at q4
      exact ⟨e1.trans e2.symm, bk_n h0 es w1 w2 f4 f5 q4 p2, hA⟩
    · rw [ix_1 k1 r] at q4
      exact ⟨e1.trans e2.symm, bk_n h1 es w1 w2 f4 f5 q4 p2, hA⟩
end RI
theorem trm_eq {x y v1 v2 : Int32} {k : Nat → Int32} (h1 : trM x y v1 k) (h2 : trM x y v2 k) : v1 = v2 := by
  rcases h1 with ⟨a, b⟩ | ⟨a, b, _⟩ <;> rcases h2 with ⟨c, d⟩ | ⟨c, d, _⟩
  · exact a.trans c.symm
  · exact absurd d b
  · exact absurd b d
  · exact a.trans c.symm
theorem trm_o {x y v : Int32} {k : Nat → Int32} (h : trM x y v k) (hv : ¬ v.toInt < 0) : trO x y := by
  rcases h with ⟨a, b⟩ | ⟨a, b, _⟩
  · rw [a] at hv; exact absurd (by decide +kernel) hv
  · exact b
theorem bld_o {x y v n n' : Int32} (h : bldP x y v n n') (hv : ¬ v.toInt < 0) : bOK x y ∧ n.toInt ≤ 5 := by
  rcases h with ⟨a, _⟩ | ⟨a, _⟩ | ⟨_, b, c, _⟩
  · rw [a] at hv; exact absurd (by decide +kernel) hv
  · rw [a] at hv; exact absurd (by decide +kernel) hv
  · exact ⟨b, c.2⟩
theorem prt_o {ok : Prop} {v n n' : Int32} (h : prtP ok v n n') (hv : ¬ v.toInt < 0) : ok ∧ n.toInt ≤ 9 := by
  rcases h with ⟨a, _⟩ | ⟨a, _⟩ | ⟨_, b, c, _⟩
  · rw [a] at hv; exact absurd (by decide +kernel) hv
  · rw [a] at hv; exact absurd (by decide +kernel) hv
  · exact ⟨b, c.2⟩
theorem sgt_o {x y z v m n n' : Int32} (h : sgtP x y z v m n n') (hv : ¬ v.toInt < 0) : sOK x z ∧ pIn y m ∧ n.toInt ≤ 7 := by
  rcases h with ⟨a, _⟩ | ⟨a, _⟩ | ⟨a, _⟩ | ⟨_, b, c, d, _⟩
  · rw [a] at hv; exact absurd (by decide +kernel) hv
  · rw [a] at hv; exact absurd (by decide +kernel) hv
  · rw [a] at hv; exact absurd (by decide +kernel) hv
  · exact ⟨b, c, d.2⟩
theorem ngt_e {x y v1 v2 : Int32} {f1 ef2 : Nat → Int32} {C0 C1 R0 R2 : Nat → Int32} (h1 : (v1 = -1 ∧ ¬ ngtO x y ∧ f1 16 = -1 ∧ ∀ R1, rfE C0 R1 → rfE C1 (rfS (-1 : Int32).toInt R1)) ∨ (ngtO x y ∧ f1 16 = 0 ∧ ∀ R1, rfE C0 R1 → rfE C1 R1)) (h2 : (¬ ngtO x y ∧ v2 = -1 ∧ ef2 0 = -1 ∧ R2 = rfS (-1 : Int32).toInt R0) ∨ (ngtO x y ∧ ef2 0 = 0 ∧ R2 = R0)) (hr : rfE C0 R0) : f1 16 = ef2 0 ∧ rfE C1 R2 := by
  rcases h1 with ⟨a, b, c, d⟩ | ⟨b, c, d⟩ <;> rcases h2 with ⟨p, q, r, s⟩ | ⟨p, r, s⟩
  · exact ⟨c.trans r.symm, by rw [s]; exact d _ hr⟩
  · exact absurd p b
  · exact absurd b p
  · exact ⟨c.trans r.symm, by rw [s]; exact d _ hr⟩
theorem bkZ_F {x v1 : Int32} {i0 i1 : Option sX} {k0 k1 : Nat → Int32} {f f1 : Nat → Int32} {a a1 : Nat → Nat → Int32} {g g1 : Nat → Nat → Option Nat} (h : bkZ x v1 i0 i1 k0 k1 f a g f1 a1 g1) : nF bkL (94 :: bkR) [15] f a g f1 a1 g1 := by
  have key : nF [16] [94] [] f a g f1 a1 g1 → nF bkL (94 :: bkR) [15] f a g f1 a1 g1 := fun h => ⟨fun j hj hc => h.1 j hj (nc_sub (by decide) hc), fun j hj hc => h.2.1 j hj (nc_sub (by decide) hc), fun j hj hc => h.2.2 j hj (nc_sub (by decide) hc)⟩
  rcases h with ⟨_, _, h, _⟩ | ⟨_, _, h, _⟩ | ⟨_, h, _⟩
  · exact key h
  · exact key h
  · exact ⟨h.1, fun j hj hc => h.2.1 j hj (nc_sub (by decide) hc), h.2.2⟩
abbrev lWd (K : Nat → ClassId) (u : Nat → Nat) (f : Nat → Int32) (a : Nat → Nat → Int32) (g : xG) (i0 i1 : Option sX) (tt : va_W) (o : Nat) (r : Nat → Nat) (ef : Nat → Int32) (ea : Nat → Nat → Int32) (eg : Nat → Int64) : va_W := xX K u f a g (iW K i0 ++ (iW K i1 ++ tt)) ++ mW K o r ef ea eg
theorem ix_in {i k : Int32} {ii L kn : Nat} (hi : i.toInt = (ii : Int)) (hL : ii + 6 ≤ L) (hL2 : L ≤ 3072) (hk : k.toInt = (kn : Int)) (h6 : kn < 6) : vp_in (i + k) L := by
  have b1 : kb 0 i 3072 := ⟨by omega, by omega⟩
  have b2 : kb 0 k 6 := ⟨by omega, by omega⟩
  have e := kt_add b1 b2 (by decide) (by decide)
  exact kb_inn (by omega) (by omega)
theorem nw_pm {A B C nw : va_W} : (nw ++ (A ++ (B ++ C))).Perm (A ++ (B ++ (nw ++ C))) := (List.perm_append_comm_assoc nw A (B ++ C)).trans ((List.perm_append_comm_assoc nw B C).append_left A)
theorem kb_by (x : Int32) : kb (-128) (vp_nar .byte x) 127 := by
  show kb (-128) x.toInt8.toInt32 127
  exact kb_i2b x
theorem tB_kb (x : Int32) (k : Nat) : kb (-128) (tB x k) 127 := kb_by _
theorem xTq_fd {t x1 x2 x3 x4 x5 : Int32} {A B A' B' : Nat → Int32} (h : xTq A B) (hA : A' = mFeedA t x1 x2 x3 x4 x5 A) (hB : B' = mFeedA t x1 x2 x3 x4 x5 B) : xTq A' B' := by
  refine ⟨by rw [hA, hB, h.1], fun j => ?_⟩
  rw [hB]
  unfold mFeedA
  by_cases c : 380 < t.toInt
  · rw [if_pos c]; exact h.2 j
  · rw [if_neg c]
    by_cases q : t.toNatClampNeg ≤ j ∧ j < t.toNatClampNeg + 20
    · rw [mCp_i (k := j - t.toNatClampNeg) q (by omega)]
      unfold tS
      by_cases q1 : j - t.toNatClampNeg < 4
      · rw [if_pos q1]; exact tB_kb _ _
      · rw [if_neg q1]
        by_cases q2 : j - t.toNatClampNeg < 8
        · rw [if_pos q2]; exact tB_kb _ _
        · rw [if_neg q2]
          by_cases q3 : j - t.toNatClampNeg < 12
          · rw [if_pos q3]; exact tB_kb _ _
          · rw [if_neg q3]
            by_cases q4 : j - t.toNatClampNeg < 16
            · rw [if_pos q4]; exact tB_kb _ _
            · rw [if_neg q4]; exact tB_kb _ _
    · rw [mCp_o q]; exact h.2 j
theorem xTq_k {A B A' B' : Nat → Int32} (h : xTq A B) (hA : A' = A) (hB : B' = B) : xTq A' B' := by
  rw [hA, hB]; exact h

