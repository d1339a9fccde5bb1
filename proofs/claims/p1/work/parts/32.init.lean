section KINIT
variable {p : Program} {l : Launch} {e : Env} {R : Room} {s : State} {m : MethodId} {args : Array Value} {below : List Frame} {meth : Method} {c : Code} {H : Heap} {locs : List Loc} {cells slots : Nat} {Q : State → Prop} {pc : Nat} {ls : Array Slot} {rest st0 : List Value} {cc : ByteArray}
variable {y : MethodName} {bytes : ByteArray} {maxL nL mc ms n index : Nat} {wd : List Cond} {rm : Room} {Ts : List Cond} {own host : String} {b : Addr} {e0 : va_E} {As : List Value} {D : va_G} {tys : List (ClassId × FieldType)} {ws : va_W} {S : Type} {w2 : S → va_W} {A : Nat → Prop}
theorem k_range (ws : va_W) (x : Nat × va_E) : (List.range ws.length).map (fun i => (ws ++ [x])[i]?) = ws.map some := by
  apply List.ext_getElem?
  intro i
  rw [List.getElem?_map, List.getElem?_map]
  by_cases h : i < ws.length
  · rw [List.getElem?_range h]
    simp [List.getElem?_append_left h, h]
  · rw [List.getElem?_eq_none (by simpa using Nat.not_lt.mp h), List.getElem?_eq_none (Nat.not_lt.mp h)]
    rfl
theorem k_nd : ∀ n : Nat, va_nd (List.range n) = true := by
  intro n
  have key : ∀ l : List Nat, l.Nodup → va_nd l = true := by
    intro l
    induction l with
    | nil => intro _; rfl
    | cons a l ih =>
      intro h
      have h2 := List.nodup_cons.mp h
      simp only [va_nd, ih h2.2, Bool.and_true]
      simp [h2.1]
  exact key _ List.nodup_range
/-- a constructor, over the cell that was made last -/
theorem kV.afterI {post : S → Prop} (hP : va_P D vwCl (ws ++ [(b, e0)]) H) (hD : va_D A (ws ++ [(b, e0)])) (hS : va_S A s.heap H locs) (hA : ∀ q, s.heap.size ≤ q → A q) {a : Array Value}
    (hr : va_P D vwCl [(b, e0)] H → va_D A [(b, e0)] → va_Run p l e R s m args below meth c H locs cells slots mc ms (F0 m pc ls st0) rest (va_Qv post (kB D tys w2 (va_A [(b, e0)] H.size)) (va_A [(b, e0)] H.size) a) (va_A [(b, e0)] H.size))
    (kk : ∀ (u : S) (H1 : Heap) (locs1 : List Loc), post u → va_P D vwCl (ws ++ w2 u) H1 → va_D A (ws ++ w2 u) → va_S A s.heap H1 locs1 → W p l e R s m args below meth c H1 locs1 (cells + mc) (slots + ms) Q (F0 m (pc + 3) ls rest)) : W p l e R s m args below meth c H locs cells slots Q (F0 m pc ls st0) := by
  have hC : [ws.length].map (fun i => (ws ++ [(b, e0)])[i]?) = [(b, e0)].map some := by simp
  have hPc : va_P D vwCl [(b, e0)] H := hP.sub [ws.length] (kpick hC)
  have hDc : va_D A [(b, e0)] := hD.sub [ws.length] rfl hC
  have hFc := va_free (wc := [(b, e0)]) hD hS hA [ws.length] hC
  refine va_callv (hr hPc hDc) hS (fun q _ h => hFc q h) hFc (fun u t H1 locs ht hvm hw hB hz1 hk1 hS => ?_)
  obtain ⟨hP1, hK1, hD1⟩ := hB
  rw [ht] at hP1
  obtain ⟨hP2, hD2⟩ := va_join hP hD [ws.length] (List.range ws.length) hC (k_range ws (b, e0)) (k_nd _) (fun i hi h => by
    have h1 := List.mem_range.mp hi
    simp at h
    omega) hk1 hFc hP1 hD1
  exact kk u H1 locs hw hP2 hD2 hS
theorem kV.callI {post : S → Prop} (F : CallFix p m c cc nL s args Ts own) (hc : kV l y wd rm D tys (.ref b :: As) [(b, e0)] post w2 mc ms) (cw : CallB R s args own index y bytes maxL none wd rm mc ms n ∧ y.name = "<init>" ∧ (Cond.instanceMethod y).before args s = true) (hK : va_K D vwCl tys s) (hP : va_P D vwCl (ws ++ [(b, e0)]) H) (hD : va_D A (ws ++ [(b, e0)])) (hS : va_S A s.heap H locs) (hA : ∀ q, s.heap.size ≤ q → A q)
    (hn : As.length = n) (hsize : ls.size = nL) (hstack : st0 = As.reverse ++ .ref b :: rest) (hW : (rest.map fun v => v.category).sum ≤ 8) (hdg : decode cc pc = .ok (.invokespecial index, 3)) (hf : cells + mc ≤ R.cells ∧ slots + ms ≤ R.slots)
    (kk : ∀ (u : S) (H1 : Heap) (locs1 : List Loc), post u → va_P D vwCl (ws ++ w2 u) H1 → va_D A (ws ++ w2 u) → va_S A s.heap H1 locs1 → W p l e R s m args below meth c H1 locs1 (cells + mc) (slots + ms) Q (F0 m (pc + 3) ls rest)) : W p l e R s m args below meth c H locs cells slots Q (F0 m pc ls st0) :=
  kV.afterI hP hD hS hA (fun hPc hDc => va_runI (As := As) (rest := rest) F (hc H.size) cw ⟨kblind, fun U hU hW => ⟨rfl, by rw [hU], by rw [hU]; exact hPc, va_K.moved hW.alike hK, hDc.weaken (fun _ _ _ _ => trivial)⟩⟩ rfl hn hsize hstack (lv_room hW) hdg hf) kk
theorem kV.callIN {post : S → Prop} (F : CallFix p m c cc nL s args Ts own) (hc : kV l y wd rm D tys (.ref b :: As) [(b, e0)] post w2 mc ms) (cw : va_CN R s args own index y host bytes maxL none wd rm mc ms n ∧ y.name = "<init>" ∧ (Cond.instanceMethod y).before args s = true) (hK : va_K D vwCl tys s) (hP : va_P D vwCl (ws ++ [(b, e0)]) H) (hD : va_D A (ws ++ [(b, e0)])) (hS : va_S A s.heap H locs) (hA : ∀ q, s.heap.size ≤ q → A q)
    (hn : As.length = n) (hsize : ls.size = nL) (hstack : st0 = As.reverse ++ .ref b :: rest) (hW : (rest.map fun v => v.category).sum ≤ 8) (hdg : decode cc pc = .ok (.invokespecial index, 3)) (hf : cells + mc ≤ R.cells ∧ slots + ms ≤ R.slots)
    (kk : ∀ (u : S) (H1 : Heap) (locs1 : List Loc), post u → va_P D vwCl (ws ++ w2 u) H1 → va_D A (ws ++ w2 u) → va_S A s.heap H1 locs1 → W p l e R s m args below meth c H1 locs1 (cells + mc) (slots + ms) Q (F0 m (pc + 3) ls rest)) : W p l e R s m args below meth c H locs cells slots Q (F0 m pc ls st0) :=
  kV.afterI hP hD hS hA (fun hPc hDc => va_runIN (As := As) (rest := rest) F (hc H.size) cw ⟨kblind, fun U hU hW => ⟨rfl, by rw [hU], by rw [hU]; exact hPc, va_K.moved hW.alike hK, hDc.weaken (fun _ _ _ _ => trivial)⟩⟩ rfl hn hsize hstack (lv_room hW) hdg hf) kk
end KINIT

theorem dX0_init_0 : decode cX0_init 0 = .ok (.aload_n 0, 1) := by decide +kernel
theorem dX0_init_1 : decode cX0_init 1 = .ok (.invokespecial 3, 3) := by decide +kernel
theorem dX0_init_4 : decode cX0_init 4 = .ok (.aload_n 0, 1) := by decide +kernel
theorem dX0_init_5 : decode cX0_init 5 = .ok (.aload_n 1, 1) := by decide +kernel
theorem dX0_init_6 : decode cX0_init 6 = .ok (.putfield 9, 3) := by decide +kernel
theorem dX0_init_9 : decode cX0_init 9 = .ok (.aload_n 0, 1) := by decide +kernel
theorem dX0_init_10 : decode cX0_init 10 = .ok (.aload_n 2, 1) := by decide +kernel
theorem dX0_init_11 : decode cX0_init 11 = .ok (.putfield 15, 3) := by decide +kernel
theorem dX0_init_14 : decode cX0_init 14 = .ok (.return_, 1) := by decide +kernel
theorem dX1_init_0 : decode cX1_init 0 = .ok (.aload_n 0, 1) := by decide +kernel
theorem dX1_init_1 : decode cX1_init 1 = .ok (.invokespecial 3, 3) := by decide +kernel
theorem dX1_init_4 : decode cX1_init 4 = .ok (.aload_n 0, 1) := by decide +kernel
theorem dX1_init_5 : decode cX1_init 5 = .ok (.iconst 0, 1) := by decide +kernel
theorem dX1_init_6 : decode cX1_init 6 = .ok (.putfield 9, 3) := by decide +kernel
theorem dX1_init_9 : decode cX1_init 9 = .ok (.aload_n 0, 1) := by decide +kernel
theorem dX1_init_10 : decode cX1_init 10 = .ok (.iconst 0, 1) := by decide +kernel
theorem dX1_init_11 : decode cX1_init 11 = .ok (.putfield 15, 3) := by decide +kernel
theorem dX1_init_14 : decode cX1_init 14 = .ok (.aload_n 0, 1) := by decide +kernel
theorem dX1_init_15 : decode cX1_init 15 = .ok (.bipush 10, 2) := by decide +kernel
theorem dX1_init_17 : decode cX1_init 17 = .ok (.newarray .int, 2) := by decide +kernel
theorem dX1_init_19 : decode cX1_init 19 = .ok (.putfield 18, 3) := by decide +kernel
theorem dX1_init_22 : decode cX1_init 22 = .ok (.aload_n 0, 1) := by decide +kernel
theorem dX1_init_23 : decode cX1_init 23 = .ok (.bipush 6, 2) := by decide +kernel
theorem dX1_init_25 : decode cX1_init 25 = .ok (.newarray .int, 2) := by decide +kernel
theorem dX1_init_27 : decode cX1_init 27 = .ok (.putfield 22, 3) := by decide +kernel
theorem dX1_init_30 : decode cX1_init 30 = .ok (.aload_n 0, 1) := by decide +kernel
theorem dX1_init_31 : decode cX1_init 31 = .ok (.aload_n 1, 1) := by decide +kernel
theorem dX1_init_32 : decode cX1_init 32 = .ok (.putfield 25, 3) := by decide +kernel
theorem dX1_init_35 : decode cX1_init 35 = .ok (.return_, 1) := by decide +kernel
theorem dX2_init_0 : decode cX2_init 0 = .ok (.aload_n 0, 1) := by decide +kernel
theorem dX2_init_1 : decode cX2_init 1 = .ok (.invokespecial 5, 3) := by decide +kernel
theorem dX2_init_4 : decode cX2_init 4 = .ok (.aload_n 0, 1) := by decide +kernel
theorem dX2_init_5 : decode cX2_init 5 = .ok (.iconst 0, 1) := by decide +kernel
theorem dX2_init_6 : decode cX2_init 6 = .ok (.putfield 11, 3) := by decide +kernel
theorem dX2_init_9 : decode cX2_init 9 = .ok (.aload_n 0, 1) := by decide +kernel
theorem dX2_init_10 : decode cX2_init 10 = .ok (.iconst 0, 1) := by decide +kernel
theorem dX2_init_11 : decode cX2_init 11 = .ok (.putfield 15, 3) := by decide +kernel
theorem dX2_init_14 : decode cX2_init 14 = .ok (.aload_n 0, 1) := by decide +kernel
theorem dX2_init_15 : decode cX2_init 15 = .ok (.sipush 384, 3) := by decide +kernel
theorem dX2_init_18 : decode cX2_init 18 = .ok (.newarray .int, 2) := by decide +kernel
theorem dX2_init_20 : decode cX2_init 20 = .ok (.putfield 18, 3) := by decide +kernel
theorem dX2_init_23 : decode cX2_init 23 = .ok (.return_, 1) := by decide +kernel
theorem dX3_init_0 : decode cX3_init 0 = .ok (.aload_n 0, 1) := by decide +kernel
theorem dX3_init_1 : decode cX3_init 1 = .ok (.invokespecial 3, 3) := by decide +kernel
theorem dX3_init_4 : decode cX3_init 4 = .ok (.aload_n 0, 1) := by decide +kernel
theorem dX3_init_5 : decode cX3_init 5 = .ok (.new 9, 3) := by decide +kernel
theorem dX3_init_8 : decode cX3_init 8 = .ok (.dup, 1) := by decide +kernel
theorem dX3_init_9 : decode cX3_init 9 = .ok (.invokespecial 11, 3) := by decide +kernel
theorem dX3_init_12 : decode cX3_init 12 = .ok (.putfield 12, 3) := by decide +kernel
theorem dX3_init_15 : decode cX3_init 15 = .ok (.aload_n 0, 1) := by decide +kernel
theorem dX3_init_16 : decode cX3_init 16 = .ok (.iconst (-1), 1) := by decide +kernel
theorem dX3_init_17 : decode cX3_init 17 = .ok (.putfield 18, 3) := by decide +kernel
theorem dX3_init_20 : decode cX3_init 20 = .ok (.aload_n 0, 1) := by decide +kernel
theorem dX3_init_21 : decode cX3_init 21 = .ok (.iconst 0, 1) := by decide +kernel
theorem dX3_init_22 : decode cX3_init 22 = .ok (.putfield 22, 3) := by decide +kernel
theorem dX3_init_25 : decode cX3_init 25 = .ok (.aload_n 0, 1) := by decide +kernel
theorem dX3_init_26 : decode cX3_init 26 = .ok (.aload_n 1, 1) := by decide +kernel
theorem dX3_init_27 : decode cX3_init 27 = .ok (.putfield 25, 3) := by decide +kernel
theorem dX3_init_30 : decode cX3_init 30 = .ok (.return_, 1) := by decide +kernel
theorem dX4_init_0 : decode cX4_init 0 = .ok (.aload_n 0, 1) := by decide +kernel
theorem dX4_init_1 : decode cX4_init 1 = .ok (.invokespecial 5, 3) := by decide +kernel
theorem dX4_init_4 : decode cX4_init 4 = .ok (.aload_n 0, 1) := by decide +kernel
theorem dX4_init_5 : decode cX4_init 5 = .ok (.new 11, 3) := by decide +kernel
theorem dX4_init_8 : decode cX4_init 8 = .ok (.dup, 1) := by decide +kernel
theorem dX4_init_9 : decode cX4_init 9 = .ok (.sipush 400, 3) := by decide +kernel
theorem dX4_init_12 : decode cX4_init 12 = .ok (.invokespecial 13, 3) := by decide +kernel
theorem dX4_init_15 : decode cX4_init 15 = .ok (.putfield 16, 3) := by decide +kernel
theorem dX4_init_18 : decode cX4_init 18 = .ok (.aload_n 0, 1) := by decide +kernel
theorem dX4_init_19 : decode cX4_init 19 = .ok (.sipush 401, 3) := by decide +kernel
theorem dX4_init_22 : decode cX4_init 22 = .ok (.newarray .int, 2) := by decide +kernel
theorem dX4_init_24 : decode cX4_init 24 = .ok (.putfield 20, 3) := by decide +kernel
theorem dX4_init_27 : decode cX4_init 27 = .ok (.aload_n 0, 1) := by decide +kernel
theorem dX4_init_28 : decode cX4_init 28 = .ok (.sipush 401, 3) := by decide +kernel
theorem dX4_init_31 : decode cX4_init 31 = .ok (.newarray .int, 2) := by decide +kernel
theorem dX4_init_33 : decode cX4_init 33 = .ok (.putfield 24, 3) := by decide +kernel
theorem dX4_init_36 : decode cX4_init 36 = .ok (.aload_n 0, 1) := by decide +kernel
theorem dX4_init_37 : decode cX4_init 37 = .ok (.iconst 0, 1) := by decide +kernel
theorem dX4_init_38 : decode cX4_init 38 = .ok (.putfield 27, 3) := by decide +kernel
theorem dX4_init_41 : decode cX4_init 41 = .ok (.aload_n 0, 1) := by decide +kernel
theorem dX4_init_42 : decode cX4_init 42 = .ok (.iconst 0, 1) := by decide +kernel
theorem dX4_init_43 : decode cX4_init 43 = .ok (.putfield 31, 3) := by decide +kernel
theorem dX4_init_46 : decode cX4_init 46 = .ok (.aload_n 0, 1) := by decide +kernel
theorem dX4_init_47 : decode cX4_init 47 = .ok (.iconst 0, 1) := by decide +kernel
theorem dX4_init_48 : decode cX4_init 48 = .ok (.putfield 34, 3) := by decide +kernel
theorem dX4_init_51 : decode cX4_init 51 = .ok (.aload_n 0, 1) := by decide +kernel
theorem dX4_init_52 : decode cX4_init 52 = .ok (.iconst 0, 1) := by decide +kernel
theorem dX4_init_53 : decode cX4_init 53 = .ok (.putfield 37, 3) := by decide +kernel
theorem dX4_init_56 : decode cX4_init 56 = .ok (.return_, 1) := by decide +kernel
theorem dX5_init_0 : decode cX5_init 0 = .ok (.aload_n 0, 1) := by decide +kernel
theorem dX5_init_1 : decode cX5_init 1 = .ok (.invokespecial 3, 3) := by decide +kernel
theorem dX5_init_4 : decode cX5_init 4 = .ok (.aload_n 0, 1) := by decide +kernel
theorem dX5_init_5 : decode cX5_init 5 = .ok (.new 9, 3) := by decide +kernel
theorem dX5_init_8 : decode cX5_init 8 = .ok (.dup, 1) := by decide +kernel
theorem dX5_init_9 : decode cX5_init 9 = .ok (.invokespecial 11, 3) := by decide +kernel
theorem dX5_init_12 : decode cX5_init 12 = .ok (.putfield 12, 3) := by decide +kernel
theorem dX5_init_15 : decode cX5_init 15 = .ok (.aload_n 0, 1) := by decide +kernel
theorem dX5_init_16 : decode cX5_init 16 = .ok (.new 18, 3) := by decide +kernel
theorem dX5_init_19 : decode cX5_init 19 = .ok (.dup, 1) := by decide +kernel
theorem dX5_init_20 : decode cX5_init 20 = .ok (.invokespecial 20, 3) := by decide +kernel
theorem dX5_init_23 : decode cX5_init 23 = .ok (.putfield 21, 3) := by decide +kernel
theorem dX5_init_26 : decode cX5_init 26 = .ok (.aload_n 0, 1) := by decide +kernel
theorem dX5_init_27 : decode cX5_init 27 = .ok (.bipush 26, 2) := by decide +kernel
theorem dX5_init_29 : decode cX5_init 29 = .ok (.newarray .long, 2) := by decide +kernel
theorem dX5_init_31 : decode cX5_init 31 = .ok (.putfield 27, 3) := by decide +kernel
theorem dX5_init_34 : decode cX5_init 34 = .ok (.aload_n 0, 1) := by decide +kernel
theorem dX5_init_35 : decode cX5_init 35 = .ok (.iconst 0, 1) := by decide +kernel
theorem dX5_init_36 : decode cX5_init 36 = .ok (.putfield 31, 3) := by decide +kernel
theorem dX5_init_39 : decode cX5_init 39 = .ok (.aload_n 0, 1) := by decide +kernel
theorem dX5_init_40 : decode cX5_init 40 = .ok (.iconst (-1), 1) := by decide +kernel
theorem dX5_init_41 : decode cX5_init 41 = .ok (.putfield 35, 3) := by decide +kernel
theorem dX5_init_44 : decode cX5_init 44 = .ok (.aload_n 0, 1) := by decide +kernel
theorem dX5_init_45 : decode cX5_init 45 = .ok (.aload_n 1, 1) := by decide +kernel
theorem dX5_init_46 : decode cX5_init 46 = .ok (.putfield 38, 3) := by decide +kernel
theorem dX5_init_49 : decode cX5_init 49 = .ok (.aload_n 0, 1) := by decide +kernel
theorem dX5_init_50 : decode cX5_init 50 = .ok (.aload_n 2, 1) := by decide +kernel
theorem dX5_init_51 : decode cX5_init 51 = .ok (.putfield 41, 3) := by decide +kernel
theorem dX5_init_54 : decode cX5_init 54 = .ok (.aload_n 0, 1) := by decide +kernel
theorem dX5_init_55 : decode cX5_init 55 = .ok (.aload_n 3, 1) := by decide +kernel
theorem dX5_init_56 : decode cX5_init 56 = .ok (.putfield 44, 3) := by decide +kernel
theorem dX5_init_59 : decode cX5_init 59 = .ok (.return_, 1) := by decide +kernel
theorem dX6_init_0 : decode cX6_init 0 = .ok (.aload_n 0, 1) := by decide +kernel
theorem dX6_init_1 : decode cX6_init 1 = .ok (.invokespecial 3, 3) := by decide +kernel
theorem dX6_init_4 : decode cX6_init 4 = .ok (.aload_n 0, 1) := by decide +kernel
theorem dX6_init_5 : decode cX6_init 5 = .ok (.sipush 1024, 3) := by decide +kernel
theorem dX6_init_8 : decode cX6_init 8 = .ok (.newarray .int, 2) := by decide +kernel
theorem dX6_init_10 : decode cX6_init 10 = .ok (.putfield 11, 3) := by decide +kernel
theorem dX6_init_13 : decode cX6_init 13 = .ok (.aload_n 0, 1) := by decide +kernel
theorem dX6_init_14 : decode cX6_init 14 = .ok (.iconst 0, 1) := by decide +kernel
theorem dX6_init_15 : decode cX6_init 15 = .ok (.putfield 15, 3) := by decide +kernel
theorem dX6_init_18 : decode cX6_init 18 = .ok (.aload_n 0, 1) := by decide +kernel
theorem dX6_init_19 : decode cX6_init 19 = .ok (.aload_n 1, 1) := by decide +kernel
theorem dX6_init_20 : decode cX6_init 20 = .ok (.putfield 19, 3) := by decide +kernel
theorem dX6_init_23 : decode cX6_init 23 = .ok (.return_, 1) := by decide +kernel
theorem dX7_init_0 : decode cX7_init 0 = .ok (.aload_n 0, 1) := by decide +kernel
theorem dX7_init_1 : decode cX7_init 1 = .ok (.invokespecial 3, 3) := by decide +kernel
theorem dX7_init_4 : decode cX7_init 4 = .ok (.aload_n 0, 1) := by decide +kernel
theorem dX7_init_5 : decode cX7_init 5 = .ok (.iconst 0, 1) := by decide +kernel
theorem dX7_init_6 : decode cX7_init 6 = .ok (.putfield 9, 3) := by decide +kernel
theorem dX7_init_9 : decode cX7_init 9 = .ok (.aload_n 0, 1) := by decide +kernel
theorem dX7_init_10 : decode cX7_init 10 = .ok (.bipush 10, 2) := by decide +kernel
theorem dX7_init_12 : decode cX7_init 12 = .ok (.newarray .int, 2) := by decide +kernel
theorem dX7_init_14 : decode cX7_init 14 = .ok (.putfield 15, 3) := by decide +kernel
theorem dX7_init_17 : decode cX7_init 17 = .ok (.aload_n 0, 1) := by decide +kernel
theorem dX7_init_18 : decode cX7_init 18 = .ok (.bipush 10, 2) := by decide +kernel
theorem dX7_init_20 : decode cX7_init 20 = .ok (.newarray .int, 2) := by decide +kernel
theorem dX7_init_22 : decode cX7_init 22 = .ok (.putfield 19, 3) := by decide +kernel
theorem dX7_init_25 : decode cX7_init 25 = .ok (.aload_n 0, 1) := by decide +kernel
theorem dX7_init_26 : decode cX7_init 26 = .ok (.bipush 10, 2) := by decide +kernel
theorem dX7_init_28 : decode cX7_init 28 = .ok (.newarray .int, 2) := by decide +kernel
theorem dX7_init_30 : decode cX7_init 30 = .ok (.putfield 22, 3) := by decide +kernel
theorem dX7_init_33 : decode cX7_init 33 = .ok (.aload_n 0, 1) := by decide +kernel
theorem dX7_init_34 : decode cX7_init 34 = .ok (.bipush 10, 2) := by decide +kernel
theorem dX7_init_36 : decode cX7_init 36 = .ok (.newarray .int, 2) := by decide +kernel
theorem dX7_init_38 : decode cX7_init 38 = .ok (.putfield 25, 3) := by decide +kernel
theorem dX7_init_41 : decode cX7_init 41 = .ok (.aload_n 0, 1) := by decide +kernel
theorem dX7_init_42 : decode cX7_init 42 = .ok (.bipush 10, 2) := by decide +kernel
theorem dX7_init_44 : decode cX7_init 44 = .ok (.newarray .int, 2) := by decide +kernel
theorem dX7_init_46 : decode cX7_init 46 = .ok (.putfield 28, 3) := by decide +kernel
theorem dX7_init_49 : decode cX7_init 49 = .ok (.aload_n 0, 1) := by decide +kernel
theorem dX7_init_50 : decode cX7_init 50 = .ok (.iconst 0, 1) := by decide +kernel
theorem dX7_init_51 : decode cX7_init 51 = .ok (.putfield 31, 3) := by decide +kernel
theorem dX7_init_54 : decode cX7_init 54 = .ok (.aload_n 0, 1) := by decide +kernel
theorem dX7_init_55 : decode cX7_init 55 = .ok (.bipush 6, 2) := by decide +kernel
theorem dX7_init_57 : decode cX7_init 57 = .ok (.newarray .int, 2) := by decide +kernel
theorem dX7_init_59 : decode cX7_init 59 = .ok (.putfield 34, 3) := by decide +kernel
theorem dX7_init_62 : decode cX7_init 62 = .ok (.aload_n 0, 1) := by decide +kernel
theorem dX7_init_63 : decode cX7_init 63 = .ok (.bipush 6, 2) := by decide +kernel
theorem dX7_init_65 : decode cX7_init 65 = .ok (.newarray .int, 2) := by decide +kernel
theorem dX7_init_67 : decode cX7_init 67 = .ok (.putfield 37, 3) := by decide +kernel
theorem dX7_init_70 : decode cX7_init 70 = .ok (.aload_n 0, 1) := by decide +kernel
theorem dX7_init_71 : decode cX7_init 71 = .ok (.bipush 6, 2) := by decide +kernel
theorem dX7_init_73 : decode cX7_init 73 = .ok (.newarray .int, 2) := by decide +kernel
theorem dX7_init_75 : decode cX7_init 75 = .ok (.putfield 40, 3) := by decide +kernel
theorem dX7_init_78 : decode cX7_init 78 = .ok (.aload_n 0, 1) := by decide +kernel
theorem dX7_init_79 : decode cX7_init 79 = .ok (.bipush 6, 2) := by decide +kernel
theorem dX7_init_81 : decode cX7_init 81 = .ok (.newarray .int, 2) := by decide +kernel
theorem dX7_init_83 : decode cX7_init 83 = .ok (.putfield 43, 3) := by decide +kernel
theorem dX7_init_86 : decode cX7_init 86 = .ok (.aload_n 0, 1) := by decide +kernel
theorem dX7_init_87 : decode cX7_init 87 = .ok (.getstatic 46, 3) := by decide +kernel
theorem dX7_init_90 : decode cX7_init 90 = .ok (.invokevirtual 49, 3) := by decide +kernel
theorem dX7_init_93 : decode cX7_init 93 = .ok (.checkcast 50, 3) := by decide +kernel
theorem dX7_init_96 : decode cX7_init 96 = .ok (.putfield 54, 3) := by decide +kernel
theorem dX7_init_99 : decode cX7_init 99 = .ok (.aload_n 0, 1) := by decide +kernel
theorem dX7_init_100 : decode cX7_init 100 = .ok (.iconst 0, 1) := by decide +kernel
theorem dX7_init_101 : decode cX7_init 101 = .ok (.putfield 57, 3) := by decide +kernel
theorem dX7_init_104 : decode cX7_init 104 = .ok (.aload_n 0, 1) := by decide +kernel
theorem dX7_init_105 : decode cX7_init 105 = .ok (.bipush 8, 2) := by decide +kernel
theorem dX7_init_107 : decode cX7_init 107 = .ok (.newarray .int, 2) := by decide +kernel
theorem dX7_init_109 : decode cX7_init 109 = .ok (.putfield 60, 3) := by decide +kernel
theorem dX7_init_112 : decode cX7_init 112 = .ok (.aload_n 0, 1) := by decide +kernel
theorem dX7_init_113 : decode cX7_init 113 = .ok (.bipush 8, 2) := by decide +kernel
theorem dX7_init_115 : decode cX7_init 115 = .ok (.newarray .int, 2) := by decide +kernel
theorem dX7_init_117 : decode cX7_init 117 = .ok (.putfield 63, 3) := by decide +kernel
theorem dX7_init_120 : decode cX7_init 120 = .ok (.aload_n 0, 1) := by decide +kernel
theorem dX7_init_121 : decode cX7_init 121 = .ok (.bipush 8, 2) := by decide +kernel
theorem dX7_init_123 : decode cX7_init 123 = .ok (.newarray .int, 2) := by decide +kernel
theorem dX7_init_125 : decode cX7_init 125 = .ok (.putfield 66, 3) := by decide +kernel
theorem dX7_init_128 : decode cX7_init 128 = .ok (.aload_n 0, 1) := by decide +kernel
theorem dX7_init_129 : decode cX7_init 129 = .ok (.bipush 6, 2) := by decide +kernel
theorem dX7_init_131 : decode cX7_init 131 = .ok (.anewarray 69, 3) := by decide +kernel
theorem dX7_init_134 : decode cX7_init 134 = .ok (.putfield 71, 3) := by decide +kernel
theorem dX7_init_137 : decode cX7_init 137 = .ok (.aload_n 0, 1) := by decide +kernel
theorem dX7_init_138 : decode cX7_init 138 = .ok (.iconst 0, 1) := by decide +kernel
theorem dX7_init_139 : decode cX7_init 139 = .ok (.putfield 75, 3) := by decide +kernel
theorem dX7_init_142 : decode cX7_init 142 = .ok (.aload_n 0, 1) := by decide +kernel
theorem dX7_init_143 : decode cX7_init 143 = .ok (.iconst (-1), 1) := by decide +kernel
theorem dX7_init_144 : decode cX7_init 144 = .ok (.putfield 78, 3) := by decide +kernel
theorem dX7_init_147 : decode cX7_init 147 = .ok (.aload_n 0, 1) := by decide +kernel
theorem dX7_init_148 : decode cX7_init 148 = .ok (.new 81, 3) := by decide +kernel
theorem dX7_init_151 : decode cX7_init 151 = .ok (.dup, 1) := by decide +kernel
theorem dX7_init_152 : decode cX7_init 152 = .ok (.invokespecial 83, 3) := by decide +kernel
theorem dX7_init_155 : decode cX7_init 155 = .ok (.putfield 84, 3) := by decide +kernel
theorem dX7_init_158 : decode cX7_init 158 = .ok (.return_, 1) := by decide +kernel
theorem dX8_init_0 : decode cX8_init 0 = .ok (.aload_n 0, 1) := by decide +kernel
theorem dX8_init_1 : decode cX8_init 1 = .ok (.invokespecial 3, 3) := by decide +kernel
theorem dX8_init_4 : decode cX8_init 4 = .ok (.aload_n 0, 1) := by decide +kernel
theorem dX8_init_5 : decode cX8_init 5 = .ok (.bipush 10, 2) := by decide +kernel
theorem dX8_init_7 : decode cX8_init 7 = .ok (.newarray .long, 2) := by decide +kernel
theorem dX8_init_9 : decode cX8_init 9 = .ok (.putfield 11, 3) := by decide +kernel
theorem dX8_init_12 : decode cX8_init 12 = .ok (.aload_n 0, 1) := by decide +kernel
theorem dX8_init_13 : decode cX8_init 13 = .ok (.bipush 32, 2) := by decide +kernel
theorem dX8_init_15 : decode cX8_init 15 = .ok (.newarray .long, 2) := by decide +kernel
theorem dX8_init_17 : decode cX8_init 17 = .ok (.putfield 19, 3) := by decide +kernel
theorem dX8_init_20 : decode cX8_init 20 = .ok (.aload_n 0, 1) := by decide +kernel
theorem dX8_init_21 : decode cX8_init 21 = .ok (.bipush 6, 2) := by decide +kernel
theorem dX8_init_23 : decode cX8_init 23 = .ok (.newarray .int, 2) := by decide +kernel
theorem dX8_init_25 : decode cX8_init 25 = .ok (.putfield 22, 3) := by decide +kernel
theorem dX8_init_28 : decode cX8_init 28 = .ok (.aload_n 0, 1) := by decide +kernel
theorem dX8_init_29 : decode cX8_init 29 = .ok (.bipush 6, 2) := by decide +kernel
theorem dX8_init_31 : decode cX8_init 31 = .ok (.newarray .int, 2) := by decide +kernel
theorem dX8_init_33 : decode cX8_init 33 = .ok (.putfield 26, 3) := by decide +kernel
theorem dX8_init_36 : decode cX8_init 36 = .ok (.aload_n 0, 1) := by decide +kernel
theorem dX8_init_37 : decode cX8_init 37 = .ok (.bipush 10, 2) := by decide +kernel
theorem dX8_init_39 : decode cX8_init 39 = .ok (.newarray .int, 2) := by decide +kernel
theorem dX8_init_41 : decode cX8_init 41 = .ok (.putfield 29, 3) := by decide +kernel
theorem dX8_init_44 : decode cX8_init 44 = .ok (.return_, 1) := by decide +kernel
theorem dX9_init_0 : decode cX9_init 0 = .ok (.aload_n 0, 1) := by decide +kernel
theorem dX9_init_1 : decode cX9_init 1 = .ok (.invokespecial 3, 3) := by decide +kernel
theorem dX9_init_4 : decode cX9_init 4 = .ok (.aload_n 0, 1) := by decide +kernel
theorem dX9_init_5 : decode cX9_init 5 = .ok (.bipush 11, 2) := by decide +kernel
theorem dX9_init_7 : decode cX9_init 7 = .ok (.newarray .int, 2) := by decide +kernel
theorem dX9_init_9 : decode cX9_init 9 = .ok (.putfield 11, 3) := by decide +kernel
theorem dX9_init_12 : decode cX9_init 12 = .ok (.aload_n 0, 1) := by decide +kernel
theorem dX9_init_13 : decode cX9_init 13 = .ok (.bipush 11, 2) := by decide +kernel
theorem dX9_init_15 : decode cX9_init 15 = .ok (.newarray .int, 2) := by decide +kernel
theorem dX9_init_17 : decode cX9_init 17 = .ok (.putfield 17, 3) := by decide +kernel
theorem dX9_init_20 : decode cX9_init 20 = .ok (.aload_n 0, 1) := by decide +kernel
theorem dX9_init_21 : decode cX9_init 21 = .ok (.sipush 704, 3) := by decide +kernel
theorem dX9_init_24 : decode cX9_init 24 = .ok (.newarray .int, 2) := by decide +kernel
theorem dX9_init_26 : decode cX9_init 26 = .ok (.putfield 20, 3) := by decide +kernel
theorem dX9_init_29 : decode cX9_init 29 = .ok (.aload_n 0, 1) := by decide +kernel
theorem dX9_init_30 : decode cX9_init 30 = .ok (.iconst 0, 1) := by decide +kernel
theorem dX9_init_31 : decode cX9_init 31 = .ok (.putfield 23, 3) := by decide +kernel
theorem dX9_init_34 : decode cX9_init 34 = .ok (.aload_n 0, 1) := by decide +kernel
theorem dX9_init_35 : decode cX9_init 35 = .ok (.iconst 0, 1) := by decide +kernel
theorem dX9_init_36 : decode cX9_init 36 = .ok (.putfield 27, 3) := by decide +kernel
theorem dX9_init_39 : decode cX9_init 39 = .ok (.aload_n 0, 1) := by decide +kernel
theorem dX9_init_40 : decode cX9_init 40 = .ok (.iconst 3, 1) := by decide +kernel
theorem dX9_init_41 : decode cX9_init 41 = .ok (.newarray .int, 2) := by decide +kernel
theorem dX9_init_43 : decode cX9_init 43 = .ok (.putfield 31, 3) := by decide +kernel
theorem dX9_init_46 : decode cX9_init 46 = .ok (.aload_n 0, 1) := by decide +kernel
theorem dX9_init_47 : decode cX9_init 47 = .ok (.bipush 64, 2) := by decide +kernel
theorem dX9_init_49 : decode cX9_init 49 = .ok (.newarray .boolean, 2) := by decide +kernel
theorem dX9_init_51 : decode cX9_init 51 = .ok (.putfield 34, 3) := by decide +kernel
theorem dX9_init_54 : decode cX9_init 54 = .ok (.aload_n 0, 1) := by decide +kernel
theorem dX9_init_55 : decode cX9_init 55 = .ok (.bipush 11, 2) := by decide +kernel
theorem dX9_init_57 : decode cX9_init 57 = .ok (.newarray .int, 2) := by decide +kernel
theorem dX9_init_59 : decode cX9_init 59 = .ok (.putfield 38, 3) := by decide +kernel
theorem dX9_init_62 : decode cX9_init 62 = .ok (.aload_n 0, 1) := by decide +kernel
theorem dX9_init_63 : decode cX9_init 63 = .ok (.aload_n 1, 1) := by decide +kernel
theorem dX9_init_64 : decode cX9_init 64 = .ok (.putfield 41, 3) := by decide +kernel
theorem dX9_init_67 : decode cX9_init 67 = .ok (.aload_n 0, 1) := by decide +kernel
theorem dX9_init_68 : decode cX9_init 68 = .ok (.aload_n 2, 1) := by decide +kernel
theorem dX9_init_69 : decode cX9_init 69 = .ok (.putfield 45, 3) := by decide +kernel
theorem dX9_init_72 : decode cX9_init 72 = .ok (.aload_n 0, 1) := by decide +kernel
theorem dX9_init_73 : decode cX9_init 73 = .ok (.getfield 11, 3) := by decide +kernel
theorem dX9_init_76 : decode cX9_init 76 = .ok (.iconst 0, 1) := by decide +kernel
theorem dX9_init_77 : decode cX9_init 77 = .ok (.bipush (-2), 2) := by decide +kernel
theorem dX9_init_79 : decode cX9_init 79 = .ok (.iastore, 1) := by decide +kernel
theorem dX9_init_80 : decode cX9_init 80 = .ok (.return_, 1) := by decide +kernel
theorem dX10_init_0 : decode cX10_init 0 = .ok (.aload_n 0, 1) := by decide +kernel
theorem dX10_init_1 : decode cX10_init 1 = .ok (.invokespecial 3, 3) := by decide +kernel
theorem dX10_init_4 : decode cX10_init 4 = .ok (.aload_n 0, 1) := by decide +kernel
theorem dX10_init_5 : decode cX10_init 5 = .ok (.iconst 0, 1) := by decide +kernel
theorem dX10_init_6 : decode cX10_init 6 = .ok (.putfield 9, 3) := by decide +kernel
theorem dX10_init_9 : decode cX10_init 9 = .ok (.aload_n 0, 1) := by decide +kernel
theorem dX10_init_10 : decode cX10_init 10 = .ok (.bipush 12, 2) := by decide +kernel
theorem dX10_init_12 : decode cX10_init 12 = .ok (.newarray .int, 2) := by decide +kernel
theorem dX10_init_14 : decode cX10_init 14 = .ok (.putfield 15, 3) := by decide +kernel
theorem dX10_init_17 : decode cX10_init 17 = .ok (.aload_n 0, 1) := by decide +kernel
theorem dX10_init_18 : decode cX10_init 18 = .ok (.bipush 12, 2) := by decide +kernel
theorem dX10_init_20 : decode cX10_init 20 = .ok (.newarray .int, 2) := by decide +kernel
theorem dX10_init_22 : decode cX10_init 22 = .ok (.putfield 19, 3) := by decide +kernel
theorem dX10_init_25 : decode cX10_init 25 = .ok (.aload_n 0, 1) := by decide +kernel
theorem dX10_init_26 : decode cX10_init 26 = .ok (.bipush 37, 2) := by decide +kernel
theorem dX10_init_28 : decode cX10_init 28 = .ok (.newarray .int, 2) := by decide +kernel
theorem dX10_init_30 : decode cX10_init 30 = .ok (.putfield 22, 3) := by decide +kernel
theorem dX10_init_33 : decode cX10_init 33 = .ok (.aload_n 0, 1) := by decide +kernel
theorem dX10_init_34 : decode cX10_init 34 = .ok (.iconst 0, 1) := by decide +kernel
theorem dX10_init_35 : decode cX10_init 35 = .ok (.putfield 25, 3) := by decide +kernel
theorem dX10_init_38 : decode cX10_init 38 = .ok (.aload_n 0, 1) := by decide +kernel
theorem dX10_init_39 : decode cX10_init 39 = .ok (.iconst 0, 1) := by decide +kernel
theorem dX10_init_40 : decode cX10_init 40 = .ok (.iload_n 1, 1) := by decide +kernel
theorem dX10_init_41 : decode cX10_init 41 = .ok (.invokestatic 28, 3) := by decide +kernel
theorem dX10_init_44 : decode cX10_init 44 = .ok (.newarray .int, 2) := by decide +kernel
theorem dX10_init_46 : decode cX10_init 46 = .ok (.putfield 34, 3) := by decide +kernel
theorem dX10_init_49 : decode cX10_init 49 = .ok (.return_, 1) := by decide +kernel
theorem dX11_init_0 : decode cX11_init 0 = .ok (.aload_n 0, 1) := by decide +kernel
theorem dX11_init_1 : decode cX11_init 1 = .ok (.invokespecial 1, 3) := by decide +kernel
theorem dX11_init_4 : decode cX11_init 4 = .ok (.aload_n 0, 1) := by decide +kernel
theorem dX11_init_5 : decode cX11_init 5 = .ok (.new 7, 3) := by decide +kernel
theorem dX11_init_8 : decode cX11_init 8 = .ok (.dup, 1) := by decide +kernel
theorem dX11_init_9 : decode cX11_init 9 = .ok (.invokespecial 9, 3) := by decide +kernel
theorem dX11_init_12 : decode cX11_init 12 = .ok (.putfield 10, 3) := by decide +kernel
theorem dX11_init_15 : decode cX11_init 15 = .ok (.aload_n 0, 1) := by decide +kernel
theorem dX11_init_16 : decode cX11_init 16 = .ok (.new 16, 3) := by decide +kernel
theorem dX11_init_19 : decode cX11_init 19 = .ok (.dup, 1) := by decide +kernel
theorem dX11_init_20 : decode cX11_init 20 = .ok (.invokespecial 18, 3) := by decide +kernel
theorem dX11_init_23 : decode cX11_init 23 = .ok (.putfield 19, 3) := by decide +kernel
theorem dX11_init_26 : decode cX11_init 26 = .ok (.aload_n 0, 1) := by decide +kernel
theorem dX11_init_27 : decode cX11_init 27 = .ok (.new 23, 3) := by decide +kernel
theorem dX11_init_30 : decode cX11_init 30 = .ok (.dup, 1) := by decide +kernel
theorem dX11_init_31 : decode cX11_init 31 = .ok (.aload_n 0, 1) := by decide +kernel
theorem dX11_init_32 : decode cX11_init 32 = .ok (.getfield 10, 3) := by decide +kernel
theorem dX11_init_35 : decode cX11_init 35 = .ok (.aload_n 0, 1) := by decide +kernel
theorem dX11_init_36 : decode cX11_init 36 = .ok (.getfield 19, 3) := by decide +kernel
theorem dX11_init_39 : decode cX11_init 39 = .ok (.invokespecial 25, 3) := by decide +kernel
theorem dX11_init_42 : decode cX11_init 42 = .ok (.putfield 28, 3) := by decide +kernel
theorem dX11_init_45 : decode cX11_init 45 = .ok (.aload_n 0, 1) := by decide +kernel
theorem dX11_init_46 : decode cX11_init 46 = .ok (.new 32, 3) := by decide +kernel
theorem dX11_init_49 : decode cX11_init 49 = .ok (.dup, 1) := by decide +kernel
theorem dX11_init_50 : decode cX11_init 50 = .ok (.aload_n 0, 1) := by decide +kernel
theorem dX11_init_51 : decode cX11_init 51 = .ok (.getfield 10, 3) := by decide +kernel
theorem dX11_init_54 : decode cX11_init 54 = .ok (.aload_n 0, 1) := by decide +kernel
theorem dX11_init_55 : decode cX11_init 55 = .ok (.getfield 19, 3) := by decide +kernel
theorem dX11_init_58 : decode cX11_init 58 = .ok (.aload_n 0, 1) := by decide +kernel
theorem dX11_init_59 : decode cX11_init 59 = .ok (.getfield 28, 3) := by decide +kernel
theorem dX11_init_62 : decode cX11_init 62 = .ok (.invokespecial 34, 3) := by decide +kernel
theorem dX11_init_65 : decode cX11_init 65 = .ok (.putfield 37, 3) := by decide +kernel
theorem dX11_init_68 : decode cX11_init 68 = .ok (.aload_n 0, 1) := by decide +kernel
theorem dX11_init_69 : decode cX11_init 69 = .ok (.new 41, 3) := by decide +kernel
theorem dX11_init_72 : decode cX11_init 72 = .ok (.dup, 1) := by decide +kernel
theorem dX11_init_73 : decode cX11_init 73 = .ok (.invokespecial 43, 3) := by decide +kernel
theorem dX11_init_76 : decode cX11_init 76 = .ok (.putfield 44, 3) := by decide +kernel
theorem dX11_init_79 : decode cX11_init 79 = .ok (.aload_n 0, 1) := by decide +kernel
theorem dX11_init_80 : decode cX11_init 80 = .ok (.new 48, 3) := by decide +kernel
theorem dX11_init_83 : decode cX11_init 83 = .ok (.dup, 1) := by decide +kernel
theorem dX11_init_84 : decode cX11_init 84 = .ok (.aload_n 0, 1) := by decide +kernel
theorem dX11_init_85 : decode cX11_init 85 = .ok (.getfield 10, 3) := by decide +kernel
theorem dX11_init_88 : decode cX11_init 88 = .ok (.invokespecial 50, 3) := by decide +kernel
theorem dX11_init_91 : decode cX11_init 91 = .ok (.putfield 53, 3) := by decide +kernel
theorem dX11_init_94 : decode cX11_init 94 = .ok (.aload_n 0, 1) := by decide +kernel
theorem dX11_init_95 : decode cX11_init 95 = .ok (.new 57, 3) := by decide +kernel
theorem dX11_init_98 : decode cX11_init 98 = .ok (.dup, 1) := by decide +kernel
theorem dX11_init_99 : decode cX11_init 99 = .ok (.aload_n 0, 1) := by decide +kernel
theorem dX11_init_100 : decode cX11_init 100 = .ok (.getfield 10, 3) := by decide +kernel
theorem dX11_init_103 : decode cX11_init 103 = .ok (.aload_n 0, 1) := by decide +kernel
theorem dX11_init_104 : decode cX11_init 104 = .ok (.getfield 53, 3) := by decide +kernel
theorem dX11_init_107 : decode cX11_init 107 = .ok (.invokespecial 59, 3) := by decide +kernel
theorem dX11_init_110 : decode cX11_init 110 = .ok (.putfield 62, 3) := by decide +kernel
theorem dX11_init_113 : decode cX11_init 113 = .ok (.aload_n 0, 1) := by decide +kernel
theorem dX11_init_114 : decode cX11_init 114 = .ok (.new 66, 3) := by decide +kernel
theorem dX11_init_117 : decode cX11_init 117 = .ok (.dup, 1) := by decide +kernel
theorem dX11_init_118 : decode cX11_init 118 = .ok (.aload_n 0, 1) := by decide +kernel
theorem dX11_init_119 : decode cX11_init 119 = .ok (.getfield 10, 3) := by decide +kernel
theorem dX11_init_122 : decode cX11_init 122 = .ok (.invokespecial 68, 3) := by decide +kernel
theorem dX11_init_125 : decode cX11_init 125 = .ok (.putfield 69, 3) := by decide +kernel
theorem dX11_init_128 : decode cX11_init 128 = .ok (.aload_n 0, 1) := by decide +kernel
theorem dX11_init_129 : decode cX11_init 129 = .ok (.new 73, 3) := by decide +kernel
theorem dX11_init_132 : decode cX11_init 132 = .ok (.dup, 1) := by decide +kernel
theorem dX11_init_133 : decode cX11_init 133 = .ok (.aload_n 0, 1) := by decide +kernel
theorem dX11_init_134 : decode cX11_init 134 = .ok (.getfield 53, 3) := by decide +kernel
theorem dX11_init_137 : decode cX11_init 137 = .ok (.invokespecial 75, 3) := by decide +kernel
theorem dX11_init_140 : decode cX11_init 140 = .ok (.putfield 78, 3) := by decide +kernel
theorem dX11_init_143 : decode cX11_init 143 = .ok (.aload_n 0, 1) := by decide +kernel
theorem dX11_init_144 : decode cX11_init 144 = .ok (.iconst 2, 1) := by decide +kernel
theorem dX11_init_145 : decode cX11_init 145 = .ok (.anewarray 7, 3) := by decide +kernel
theorem dX11_init_148 : decode cX11_init 148 = .ok (.putfield 82, 3) := by decide +kernel
theorem dX11_init_151 : decode cX11_init 151 = .ok (.aload_n 0, 1) := by decide +kernel
theorem dX11_init_152 : decode cX11_init 152 = .ok (.sipush 400, 3) := by decide +kernel
theorem dX11_init_155 : decode cX11_init 155 = .ok (.newarray .byte, 2) := by decide +kernel
theorem dX11_init_157 : decode cX11_init 157 = .ok (.putfield 86, 3) := by decide +kernel
theorem dX11_init_160 : decode cX11_init 160 = .ok (.aload_n 0, 1) := by decide +kernel
theorem dX11_init_161 : decode cX11_init 161 = .ok (.iconst 5, 1) := by decide +kernel
theorem dX11_init_162 : decode cX11_init 162 = .ok (.newarray .int, 2) := by decide +kernel
theorem dX11_init_164 : decode cX11_init 164 = .ok (.putfield 90, 3) := by decide +kernel
theorem dX11_init_167 : decode cX11_init 167 = .ok (.aload_n 0, 1) := by decide +kernel
theorem dX11_init_168 : decode cX11_init 168 = .ok (.iconst 0, 1) := by decide +kernel
theorem dX11_init_169 : decode cX11_init 169 = .ok (.putfield 94, 3) := by decide +kernel
theorem dX11_init_172 : decode cX11_init 172 = .ok (.aload_n 0, 1) := by decide +kernel
theorem dX11_init_173 : decode cX11_init 173 = .ok (.iconst (-1), 1) := by decide +kernel
theorem dX11_init_174 : decode cX11_init 174 = .ok (.putfield 98, 3) := by decide +kernel
theorem dX11_init_177 : decode cX11_init 177 = .ok (.aload_n 0, 1) := by decide +kernel
theorem dX11_init_178 : decode cX11_init 178 = .ok (.iconst 0, 1) := by decide +kernel
theorem dX11_init_179 : decode cX11_init 179 = .ok (.putfield 101, 3) := by decide +kernel
theorem dX11_init_182 : decode cX11_init 182 = .ok (.aload_n 0, 1) := by decide +kernel
theorem dX11_init_183 : decode cX11_init 183 = .ok (.iconst (-1), 1) := by decide +kernel
theorem dX11_init_184 : decode cX11_init 184 = .ok (.putfield 104, 3) := by decide +kernel
theorem dX11_init_187 : decode cX11_init 187 = .ok (.aload_n 0, 1) := by decide +kernel
theorem dX11_init_188 : decode cX11_init 188 = .ok (.iconst 0, 1) := by decide +kernel
theorem dX11_init_189 : decode cX11_init 189 = .ok (.putfield 107, 3) := by decide +kernel
theorem dX11_init_192 : decode cX11_init 192 = .ok (.return_, 1) := by decide +kernel
theorem inC5 : ∀ w ∈ u_ws RX5 TX5 8, w ∈ kG := by
  intro w h
  obtain ⟨k, hk, rfl⟩ := List.mem_map.mp h
  have hk := List.mem_range.mp hk
  match k, hk with
  | 0, _ => exact kt2 8 rfl rfl
  | 1, _ => exact kt2 10 rfl rfl
  | 2, _ => exact kt2 12 rfl rfl
  | 3, _ => exact kt2 14 rfl rfl
  | 4, _ => exact kt2 16 rfl rfl
  | 5, _ => exact kt2 18 rfl rfl
  | 6, _ => exact kt2 20 rfl rfl
  | 7, _ => exact kt2 22 rfl rfl
  | k + 8, hk => exact absurd hk (by omega)
theorem wt1_52 : Cond.methodLink RX8 3 objectInit ∈ kG := kt1 52 rfl rfl
theorem wt1_53 : Cond.fieldLink RX8 11 "SunriseRoof$Slate" "words" "[J" ∈ kG := kt1 53 rfl rfl
theorem wt1_55 : Cond.fieldLink RX8 19 "SunriseRoof$Slate" "stack" "[J" ∈ kG := kt1 55 rfl rfl
theorem wt1_58 : Cond.fieldLink RX8 22 "SunriseRoof$Slate" "works" "[I" ∈ kG := kt1 58 rfl rfl
theorem wt1_60 : Cond.fieldLink RX8 26 "SunriseRoof$Slate" "tires" "[I" ∈ kG := kt1 60 rfl rfl
theorem wt1_62 : Cond.fieldLink RX8 29 "SunriseRoof$Slate" "chain" "[I" ∈ kG := kt1 62 rfl rfl
theorem wt1_204 : Cond.methodLink RX2 5 objectInit ∈ kG := kt1 204 rfl rfl
theorem wt1_221 : Cond.methodLink RX0 3 objectInit ∈ kG := kt1 221 rfl rfl
theorem wt2_152 : Cond.methodLink RX6 3 objectInit ∈ kG := kt2 152 rfl rfl
theorem wt2_168 : Cond.methodLink RX1 3 objectInit ∈ kG := kt2 168 rfl rfl
theorem wt2_114 : Cond.methodLink RX9 3 objectInit ∈ kG := kt2 114 rfl rfl
theorem wt2_118 : Cond.fieldLink RX9 17 "SunriseRoof$Study" "lessonRow" "[I" ∈ kG := kt2 118 rfl rfl
theorem wt2_36 : Cond.methodLink RX10 3 objectInit ∈ kG := kt2 36 rfl rfl
theorem wt2_43 : Cond.fieldLink RX10 15 "SunriseRoof$Text" "kinds" "[I" ∈ kG := kt2 43 rfl rfl
theorem wt2_46 : Cond.fieldLink RX10 19 "SunriseRoof$Text" "times" "[I" ∈ kG := kt2 46 rfl rfl
theorem wt2_37 : Cond.methodLink RX10 28 Lib.Math.max.name ∈ kG := kt2 37 rfl rfl
theorem wt2_49 : Cond.fieldLink RX10 34 "SunriseRoof$Text" "code" "[I" ∈ kG := kt2 49 rfl rfl
theorem wt2_30 : Cond.methodLink RX4 5 objectInit ∈ kG := kt2 30 rfl rfl
theorem wt2_31 : Cond.classLink RX4 11 RX10 ∈ kG := kt2 31 rfl rfl
theorem wt2_32 : Cond.instantiable RX10 6 ∈ kG := kt2 32 rfl rfl
theorem wt2_35 : Cond.code yX10_init cX10_init 2 none ∈ kG := kt2 35 rfl rfl
theorem wt2_33 : Cond.methodLink RX4 13 yX10_init ∈ kG := kt2 33 rfl rfl
theorem wt2_34 : Cond.instanceMethod yX10_init ∈ kG := kt2 34 rfl rfl
theorem wt1_35 : Cond.methodLink RX7 3 objectInit ∈ kG := kt1 35 rfl rfl
theorem wt1_38 : Cond.methodLink RX7 49 ⟨"[I", "clone", "()Ljava/lang/Object;"⟩ ∈ kG := kt1 38 rfl rfl
theorem wt1_39 : Cond.sameMethod "[I" "java/lang/Object" "clone" "()Ljava/lang/Object;" ∈ kG := kt1 39 rfl rfl
theorem wt1_40 : Cond.native ⟨"java/lang/Object", "clone", "()Ljava/lang/Object;"⟩ ∈ kG := kt1 40 rfl rfl
theorem wt1_41 : Cond.instanceMethod ⟨"java/lang/Object", "clone", "()Ljava/lang/Object;"⟩ ∈ kG := kt1 41 rfl rfl
theorem wt1_42 : Cond.selects "[I" ⟨"[I", "clone", "()Ljava/lang/Object;"⟩ ⟨"java/lang/Object", "clone", "()Ljava/lang/Object;"⟩ ∈ kG := kt1 42 rfl rfl
theorem wt1_44 : Cond.classLink RX7 50 "[I" ∈ kG := kt1 44 rfl rfl
theorem wt1_45 : Cond.classLink RX7 69 RX10 ∈ kG := kt1 45 rfl rfl
theorem wt1_47 : Cond.classLink RX7 81 RX8 ∈ kG := kt1 47 rfl rfl
theorem wt1_48 : Cond.instantiable RX8 5 ∈ kG := kt1 48 rfl rfl
theorem wt1_3 : Cond.initialized RX8 ∈ kG := kt1 3 rfl rfl
theorem wt1_51 : Cond.code yX8_init cX8_init 1 none ∈ kG := kt1 51 rfl rfl
theorem wt1_50 : Cond.instanceMethod yX8_init ∈ kG := kt1 50 rfl rfl
theorem wt1_154 : Cond.fieldLink RX7 84 "SunriseRoof$Site" "slate" "LSunriseRoof$Slate;" ∈ kG := kt1 154 rfl rfl
theorem wt2_92 : Cond.methodLink RX3 3 objectInit ∈ kG := kt2 92 rfl rfl
theorem wt2_93 : Cond.classLink RX3 9 RX7 ∈ kG := kt2 93 rfl rfl
theorem wt1_31 : Cond.instantiable RX7 20 ∈ kG := kt1 31 rfl rfl
theorem wt1_34 : Cond.code yX7_init cX7_init 1 none ∈ kG := kt1 34 rfl rfl
theorem wt1_33 : Cond.instanceMethod yX7_init ∈ kG := kt1 33 rfl rfl
theorem wt2_99 : Cond.fieldLink RX3 22 "SunriseRoof$Planner" "lesson" "I" ∈ kG := kt2 99 rfl rfl
theorem wt1_234 : Cond.methodLink RX5 3 objectInit ∈ kG := kt1 234 rfl rfl
theorem wt1_235 : Cond.classLink RX5 9 RX7 ∈ kG := kt1 235 rfl rfl
theorem wt2_2 : Cond.fieldLink RX5 12 "SunriseRoof$Runner" "siteAhead" "LSunriseRoof$Site;" ∈ kG := kt2 2 rfl rfl
theorem wt1_237 : Cond.classLink RX5 18 RX2 ∈ kG := kt1 237 rfl rfl
theorem wt1_200 : Cond.instantiable RX2 3 ∈ kG := kt1 200 rfl rfl
theorem wt1_203 : Cond.code yX2_init cX2_init 1 none ∈ kG := kt1 203 rfl rfl
theorem wt1_202 : Cond.instanceMethod yX2_init ∈ kG := kt1 202 rfl rfl
theorem wt2_3 : Cond.fieldLink RX5 21 "SunriseRoof$Runner" "pastAhead" "LSunriseRoof$Past;" ∈ kG := kt2 3 rfl rfl
theorem wt2_4 : Cond.fieldLink RX5 27 "SunriseRoof$Runner" "words" "[J" ∈ kG := kt2 4 rfl rfl
theorem wt2_5 : Cond.fieldLink RX5 31 "SunriseRoof$Runner" "done" "I" ∈ kG := kt2 5 rfl rfl
theorem wt2_7 : Cond.fieldLink RX5 35 "SunriseRoof$Runner" "stood" "I" ∈ kG := kt2 7 rfl rfl
theorem wt1_239 : Cond.fieldLink RX5 38 "SunriseRoof$Runner" "site" "LSunriseRoof$Site;" ∈ kG := kt1 239 rfl rfl
theorem wt2_0 : Cond.fieldLink RX5 41 "SunriseRoof$Runner" "past" "LSunriseRoof$Past;" ∈ kG := kt2 0 rfl rfl
theorem wt2_1 : Cond.fieldLink RX5 44 "SunriseRoof$Runner" "deeds" "LSunriseRoof$Deeds;" ∈ kG := kt2 1 rfl rfl
theorem wt1_27 : Cond.methodLink RX11 1 objectInit ∈ kG := kt1 27 rfl rfl
theorem wt1_30 : Cond.classLink RX11 7 RX7 ∈ kG := kt1 30 rfl rfl
theorem wt1_199 : Cond.classLink RX11 16 RX2 ∈ kG := kt1 199 rfl rfl
theorem wt1_216 : Cond.classLink RX11 23 RX0 ∈ kG := kt1 216 rfl rfl
theorem wt1_217 : Cond.instantiable RX0 2 ∈ kG := kt1 217 rfl rfl
theorem wt1_220 : Cond.code yX0_init cX0_init 3 none ∈ kG := kt1 220 rfl rfl
theorem wt1_218 : Cond.methodLink RX11 25 yX0_init ∈ kG := kt1 218 rfl rfl
theorem wt1_219 : Cond.instanceMethod yX0_init ∈ kG := kt1 219 rfl rfl
theorem wt1_229 : Cond.classLink RX11 32 RX5 ∈ kG := kt1 229 rfl rfl
theorem wt1_230 : Cond.instantiable RX5 8 ∈ kG := kt1 230 rfl rfl
theorem wt1_6 : Cond.initialized RX5 ∈ kG := kt1 6 rfl rfl
theorem wt1_233 : Cond.code yX5_init cX5_init 4 none ∈ kG := kt1 233 rfl rfl
theorem wt1_231 : Cond.methodLink RX11 34 yX5_init ∈ kG := kt1 231 rfl rfl
theorem wt1_232 : Cond.instanceMethod yX5_init ∈ kG := kt1 232 rfl rfl
theorem wt2_189 : Cond.fieldLink RX11 37 "SunriseRoof" "runner" "LSunriseRoof$Runner;" ∈ kG := kt2 189 rfl rfl
theorem wt2_25 : Cond.classLink RX11 41 RX4 ∈ kG := kt2 25 rfl rfl
theorem wt2_26 : Cond.instantiable RX4 7 ∈ kG := kt2 26 rfl rfl
theorem wt2_29 : Cond.code yX4_init cX4_init 1 none ∈ kG := kt2 29 rfl rfl
theorem wt2_28 : Cond.instanceMethod yX4_init ∈ kG := kt2 28 rfl rfl
theorem wt2_87 : Cond.classLink RX11 48 RX3 ∈ kG := kt2 87 rfl rfl
theorem wt2_88 : Cond.instantiable RX3 4 ∈ kG := kt2 88 rfl rfl
theorem wt2_91 : Cond.code yX3_init cX3_init 2 none ∈ kG := kt2 91 rfl rfl
theorem wt2_89 : Cond.methodLink RX11 50 yX3_init ∈ kG := kt2 89 rfl rfl
theorem wt2_90 : Cond.instanceMethod yX3_init ∈ kG := kt2 90 rfl rfl
theorem wt2_109 : Cond.classLink RX11 57 RX9 ∈ kG := kt2 109 rfl rfl
theorem wt2_110 : Cond.instantiable RX9 10 ∈ kG := kt2 110 rfl rfl
theorem wt2_113 : Cond.code yX9_init cX9_init 3 none ∈ kG := kt2 113 rfl rfl
theorem wt2_111 : Cond.methodLink RX11 59 yX9_init ∈ kG := kt2 111 rfl rfl
theorem wt2_112 : Cond.instanceMethod yX9_init ∈ kG := kt2 112 rfl rfl
theorem wt2_147 : Cond.classLink RX11 66 RX6 ∈ kG := kt2 147 rfl rfl
theorem wt2_148 : Cond.instantiable RX6 3 ∈ kG := kt2 148 rfl rfl
theorem wt2_151 : Cond.code yX6_init cX6_init 2 none ∈ kG := kt2 151 rfl rfl
theorem wt2_149 : Cond.methodLink RX11 68 yX6_init ∈ kG := kt2 149 rfl rfl
theorem wt2_150 : Cond.instanceMethod yX6_init ∈ kG := kt2 150 rfl rfl
theorem wt2_163 : Cond.classLink RX11 73 RX1 ∈ kG := kt2 163 rfl rfl
theorem wt2_164 : Cond.instantiable RX1 5 ∈ kG := kt2 164 rfl rfl
theorem wt2_167 : Cond.code yX1_init cX1_init 2 none ∈ kG := kt2 167 rfl rfl
theorem wt2_165 : Cond.methodLink RX11 75 yX1_init ∈ kG := kt2 165 rfl rfl
theorem wt2_166 : Cond.instanceMethod yX1_init ∈ kG := kt2 166 rfl rfl
