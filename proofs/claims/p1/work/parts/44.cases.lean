set_option maxHeartbeats 4000000 in
set_option maxRecDepth 100000 in
theorem law_throwDown {p : Program} {e : Env} {s : State} {m : MethodId} {below : List Frame} {meth : Method} {c : Code} (l : Launch) {b : Nat} {xs : Nat → Int32} (C0 : lw_At p s m meth c b 6 xs) {D : va_G} {K : Nat → ClassId} (hK : va_K D vwCl (tysK K) s) (hE : kE K (fun q : Nat => s.heap.size ≤ q) s s.heap) (hT : kT (fun q : Nat => s.heap.size ≤ q) s s.heap) {u : Nat → Nat} {o : Nat} {r : Nat → Nat} {f : Nat → Int32} {a : Nat → Nat → Int32} {g : Nat → Int64} (hF : f 0 = 0 ∧ f 6 = 0 ∧ f 13 = 0 ∧ f 14 = (-1) ∧ f 33 = 0 ∧ f 37 = (-1) ∧ f 45 = (-1) ∧ a 2 22 = 0 ∧ a 2 99 = 30 ∧ a 2 100 = 2 ∧ a 2 101 = 0 ∧ a 2 102 = 0 ∧ a 2 103 = 0 ∧ a 2 104 = 0 ∧ a 2 105 = 0 ∧ a 2 106 = (-1) ∧ a 1 1 = 0 ∧ a 1 2 = 0 ∧ a 1 3 = 0 ∧ a 1 5 = 0 ∧ a 1 6 = 0 ∧ a 4 0 = 0 ∧ a 4 1 = 0) {H : Heap} {locs : List Loc} (hP : va_P D vwCl (xW K u xf0 xa0 xg0 ++ mW K o r f a g) H) (hD : va_D (fun q : Nat => s.heap.size ≤ q) (xW K u xf0 xa0 xg0 ++ mW K o r f a g)) (hS : va_S (fun q : Nat => s.heap.size ≤ q) s.heap H locs) {ls : Array Slot} (hl : lv_has ls 4 [(3, .int 0), (2, .ref o), (1, .ref (u 0)), (0, .ref b)]) : W p l e room_1 s m #[Value.ref b] below meth c H locs 117 26266 (lw_Z below #[Value.ref b] s) (F0 m 690 ls []) := by
  obtain ⟨hx, hb, hr, hml, hown, hts, hX, hbl, hlocks, hgv⟩ := id C0
  have hA : ∀ q : Nat, s.heap.size ≤ q → (fun q : Nat => s.heap.size ≤ q) q := fun _ h => h
  have hbA : ¬ (fun q : Nat => s.heap.size ≤ q) b := Nat.not_le.mpr hbl
  have hg : ∀ w ∈ kG, w.before #[Value.ref b] s = true := fun w h => hts w (kG_in w h)
  have hown : s.vm.findClass RL = some m.cls := hown
  refine lv_aload_n hx hb dL_law_690 rfl (lv_at hl 2 rfl) ?_
  refine lv_aload_n hx hb dL_law_691 rfl (lv_at hl 3 rfl) ?_
  refine lv_iload_n hx hb dL_law_692 rfl (lv_at hl 0 rfl) ?_
  refine lv_iconst (v := 1) hx hb dL_law_693 (by decide) ?_
  refine lv_iadd hx hb dL_law_694 ?_
  refine k_top (z := 1) (by decide +kernel) ?_
  refine va_sld hx hb hX hbl hbA hS (k_in (by decide +kernel)) dL_law_695 ?_
  refine k_top (z := xs 1) (by rw [cl_1]) ?_
  refine kI.callL (As := [.int (xs 1)]) (rest := []) ⟨hx, hb, hml, hown, hg⟩ (x_throwDown l u xf0 xa0 xg0 rfl (xs 1) ) (cwV 1 hg (kgV wt4_179 wt4_180 wt4_181 wt1_1 wt4_182) rfl rfl rfl (by decide +kernel) ⟨by decide, by decide⟩) hK hP hD hS hA 0 11 rfl rfl rfl hl.1 rfl (Nat.le_of_ble_eq_true rfl) dL_law_696 ⟨by decide, by decide⟩ (fun v1 u1 H locs hw1 hP hD hS => ?_)
  refine lv_aload_n hx hb dL_law_699 rfl (lv_at hl 1 rfl) ?_
  refine lv_aload_n hx hb dL_law_700 rfl (lv_at hl 3 rfl) ?_
  refine lv_iload_n hx hb dL_law_701 rfl (lv_at hl 0 rfl) ?_
  refine lv_iconst (v := 1) hx hb dL_law_702 (by decide) ?_
  refine lv_iadd hx hb dL_law_703 ?_
  refine k_top (z := 1) (by decide +kernel) ?_
  refine va_sld hx hb hX hbl hbA hS (k_in (by decide +kernel)) dL_law_704 ?_
  refine k_top (z := xs 1) (by rw [cl_1]) ?_
  refine kI.callW (As := [.int (xs 1)]) (rest := [.int v1]) ⟨hx, hb, hml, hown, hg⟩ (c_throwDown l o r f a g hF.2.2.2.2.2.2.2.2.2.2.2.1 (xs 1)) (cwV 1 hg (kgV wt7_140 wt7_141 wt7_142 wt1_14 wt7_143) rfl rfl rfl (by decide +kernel) ⟨by decide, by decide⟩) hK hP hD hS hA 0 12 rfl rfl rfl hl.1 rfl (Nat.le_of_ble_eq_true rfl) dL_law_705 ⟨by decide, by decide⟩ (fun v2 u2 H locs hw2 hP hD hS => ?_)
  refine lv_icmp_eq (tgt := 1128) hx hb dL_law_708 (by decide) (fun c1 => ?_) (fun c1 => absurd (hw1.trans hw2.symm) c1)
  exact law_tail l C0 hS hl (by decide) (by decide)
set_option maxHeartbeats 4000000 in
set_option maxRecDepth 100000 in
theorem law_tick {p : Program} {e : Env} {s : State} {m : MethodId} {below : List Frame} {meth : Method} {c : Code} (l : Launch) {b : Nat} {xs : Nat → Int32} (C0 : lw_At p s m meth c b 6 xs) {D : va_G} {K : Nat → ClassId} (hK : va_K D vwCl (tysK K) s) (hE : kE K (fun q : Nat => s.heap.size ≤ q) s s.heap) (hT : kT (fun q : Nat => s.heap.size ≤ q) s s.heap) {u : Nat → Nat} {o : Nat} {r : Nat → Nat} {f : Nat → Int32} {a : Nat → Nat → Int32} {g : Nat → Int64} (hF : f 0 = 0 ∧ f 6 = 0 ∧ f 13 = 0 ∧ f 14 = (-1) ∧ f 33 = 0 ∧ f 37 = (-1) ∧ f 45 = (-1) ∧ a 2 22 = 0 ∧ a 2 99 = 30 ∧ a 2 100 = 2 ∧ a 2 101 = 0 ∧ a 2 102 = 0 ∧ a 2 103 = 0 ∧ a 2 104 = 0 ∧ a 2 105 = 0 ∧ a 2 106 = (-1) ∧ a 1 1 = 0 ∧ a 1 2 = 0 ∧ a 1 3 = 0 ∧ a 1 5 = 0 ∧ a 1 6 = 0 ∧ a 4 0 = 0 ∧ a 4 1 = 0) {H : Heap} {locs : List Loc} (hP : va_P D vwCl (xW K u xf0 xa0 xg0 ++ mW K o r f a g) H) (hD : va_D (fun q : Nat => s.heap.size ≤ q) (xW K u xf0 xa0 xg0 ++ mW K o r f a g)) (hS : va_S (fun q : Nat => s.heap.size ≤ q) s.heap H locs) {ls : Array Slot} (hl : lv_has ls 4 [(3, .int 0), (2, .ref o), (1, .ref (u 0)), (0, .ref b)]) : W p l e room_1 s m #[Value.ref b] below meth c H locs 117 26266 (lw_Z below #[Value.ref b] s) (F0 m 713 ls []) := by
  obtain ⟨hx, hb, hr, hml, hown, hts, hX, hbl, hlocks, hgv⟩ := id C0
  have hA : ∀ q : Nat, s.heap.size ≤ q → (fun q : Nat => s.heap.size ≤ q) q := fun _ h => h
  have hbA : ¬ (fun q : Nat => s.heap.size ≤ q) b := Nat.not_le.mpr hbl
  have hg : ∀ w ∈ kG, w.before #[Value.ref b] s = true := fun w h => hts w (kG_in w h)
  have hown : s.vm.findClass RL = some m.cls := hown
  refine lv_aload_n hx hb dL_law_713 rfl (lv_at hl 2 rfl) ?_
  refine kI.callL (As := []) (rest := []) ⟨hx, hb, hml, hown, hg⟩ (x_tick l u xf0 xa0 xg0 rfl rfl rfl rfl rfl  ) (cwV 0 hg (kgV wt4_184 wt4_185 wt4_186 wt1_1 wt4_187) rfl rfl rfl (by decide +kernel) ⟨by decide, by decide⟩) hK hP hD hS hA 0 11 rfl rfl rfl hl.1 rfl (Nat.le_of_ble_eq_true rfl) dL_law_714 ⟨by decide, by decide⟩ (fun v1 u1 H locs hw1 hP hD hS => ?_)
  refine lv_aload_n hx hb dL_law_717 rfl (lv_at hl 1 rfl) ?_
  refine kI.callW (As := []) (rest := [.int v1]) ⟨hx, hb, hml, hown, hg⟩ (c_tick l o r f a g hF.2.2.2.2.2.2.2.2.2.2.2.1 hF.2.2.2.2.2.2.2.2.2.2.2.2.1 hF.2.2.2.2.2.2.2.1 hF.2.2.2.2.1 ) (cwV 0 hg (kgV wt7_156 wt7_157 wt7_158 wt1_14 wt7_159) rfl rfl rfl (by decide +kernel) ⟨by decide, by decide⟩) hK hP hD hS hA 0 12 rfl rfl rfl hl.1 rfl (Nat.le_of_ble_eq_true rfl) dL_law_718 ⟨by decide, by decide⟩ (fun v2 u2 H locs hw2 hP hD hS => ?_)
  refine lv_icmp_eq (tgt := 1128) hx hb dL_law_721 (by decide) (fun c1 => ?_) (fun c1 => absurd (hw1.trans hw2.symm) c1)
  exact law_tail l C0 hS hl (by decide) (by decide)
set_option maxHeartbeats 4000000 in
set_option maxRecDepth 100000 in
theorem law_undo {p : Program} {e : Env} {s : State} {m : MethodId} {below : List Frame} {meth : Method} {c : Code} (l : Launch) {b : Nat} {xs : Nat → Int32} (C0 : lw_At p s m meth c b 6 xs) {D : va_G} {K : Nat → ClassId} (hK : va_K D vwCl (tysK K) s) (hE : kE K (fun q : Nat => s.heap.size ≤ q) s s.heap) (hT : kT (fun q : Nat => s.heap.size ≤ q) s s.heap) {u : Nat → Nat} {o : Nat} {r : Nat → Nat} {f : Nat → Int32} {a : Nat → Nat → Int32} {g : Nat → Int64} (hF : f 0 = 0 ∧ f 6 = 0 ∧ f 13 = 0 ∧ f 14 = (-1) ∧ f 33 = 0 ∧ f 37 = (-1) ∧ f 45 = (-1) ∧ a 2 22 = 0 ∧ a 2 99 = 30 ∧ a 2 100 = 2 ∧ a 2 101 = 0 ∧ a 2 102 = 0 ∧ a 2 103 = 0 ∧ a 2 104 = 0 ∧ a 2 105 = 0 ∧ a 2 106 = (-1) ∧ a 1 1 = 0 ∧ a 1 2 = 0 ∧ a 1 3 = 0 ∧ a 1 5 = 0 ∧ a 1 6 = 0 ∧ a 4 0 = 0 ∧ a 4 1 = 0) {H : Heap} {locs : List Loc} (hP : va_P D vwCl (xW K u xf0 xa0 xg0 ++ mW K o r f a g) H) (hD : va_D (fun q : Nat => s.heap.size ≤ q) (xW K u xf0 xa0 xg0 ++ mW K o r f a g)) (hS : va_S (fun q : Nat => s.heap.size ≤ q) s.heap H locs) {ls : Array Slot} (hl : lv_has ls 4 [(3, .int 0), (2, .ref o), (1, .ref (u 0)), (0, .ref b)]) : W p l e room_1 s m #[Value.ref b] below meth c H locs 117 26266 (lw_Z below #[Value.ref b] s) (F0 m 726 ls []) := by
  obtain ⟨hx, hb, hr, hml, hown, hts, hX, hbl, hlocks, hgv⟩ := id C0
  have hA : ∀ q : Nat, s.heap.size ≤ q → (fun q : Nat => s.heap.size ≤ q) q := fun _ h => h
  have hbA : ¬ (fun q : Nat => s.heap.size ≤ q) b := Nat.not_le.mpr hbl
  have hg : ∀ w ∈ kG, w.before #[Value.ref b] s = true := fun w h => hts w (kG_in w h)
  have hown : s.vm.findClass RL = some m.cls := hown
  refine lv_aload_n hx hb dL_law_726 rfl (lv_at hl 2 rfl) ?_
  refine kI.callL (As := []) (rest := []) ⟨hx, hb, hml, hown, hg⟩ (x_undo l u xf0 xa0 xg0 rfl  ) (cwV 0 hg (kgV wt4_189 wt4_190 wt4_191 wt1_1 wt4_192) rfl rfl rfl (by decide +kernel) ⟨by decide, by decide⟩) hK hP hD hS hA 0 11 rfl rfl rfl hl.1 rfl (Nat.le_of_ble_eq_true rfl) dL_law_727 ⟨by decide, by decide⟩ (fun v1 u1 H locs hw1 hP hD hS => ?_)
  refine lv_aload_n hx hb dL_law_730 rfl (lv_at hl 1 rfl) ?_
  refine kI.callW (As := []) (rest := [.int v1]) ⟨hx, hb, hml, hown, hg⟩ (c_undo l o r f a g hF.2.2.2.2.1 ) (cwV 0 hg (kgV wt7_112 wt7_113 wt7_114 wt1_14 wt7_115) rfl rfl rfl (by decide +kernel) ⟨by decide, by decide⟩) hK hP hD hS hA 0 12 rfl rfl rfl hl.1 rfl (Nat.le_of_ble_eq_true rfl) dL_law_731 ⟨by decide, by decide⟩ (fun v2 u2 H locs hw2 hP hD hS => ?_)
  refine lv_icmp_eq (tgt := 1128) hx hb dL_law_734 (by decide) (fun c1 => ?_) (fun c1 => absurd (hw1.trans hw2.symm) c1)
  exact law_tail l C0 hS hl (by decide) (by decide)
set_option maxHeartbeats 4000000 in
set_option maxRecDepth 100000 in
theorem law_longest {p : Program} {e : Env} {s : State} {m : MethodId} {below : List Frame} {meth : Method} {c : Code} (l : Launch) {b : Nat} {xs : Nat → Int32} (C0 : lw_At p s m meth c b 6 xs) {D : va_G} {K : Nat → ClassId} (hK : va_K D vwCl (tysK K) s) (hE : kE K (fun q : Nat => s.heap.size ≤ q) s s.heap) (hT : kT (fun q : Nat => s.heap.size ≤ q) s s.heap) {u : Nat → Nat} {o : Nat} {r : Nat → Nat} {f : Nat → Int32} {a : Nat → Nat → Int32} {g : Nat → Int64} (hF : f 0 = 0 ∧ f 6 = 0 ∧ f 13 = 0 ∧ f 14 = (-1) ∧ f 33 = 0 ∧ f 37 = (-1) ∧ f 45 = (-1) ∧ a 2 22 = 0 ∧ a 2 99 = 30 ∧ a 2 100 = 2 ∧ a 2 101 = 0 ∧ a 2 102 = 0 ∧ a 2 103 = 0 ∧ a 2 104 = 0 ∧ a 2 105 = 0 ∧ a 2 106 = (-1) ∧ a 1 1 = 0 ∧ a 1 2 = 0 ∧ a 1 3 = 0 ∧ a 1 5 = 0 ∧ a 1 6 = 0 ∧ a 4 0 = 0 ∧ a 4 1 = 0) {H : Heap} {locs : List Loc} (hP : va_P D vwCl (xW K u xf0 xa0 xg0 ++ mW K o r f a g) H) (hD : va_D (fun q : Nat => s.heap.size ≤ q) (xW K u xf0 xa0 xg0 ++ mW K o r f a g)) (hS : va_S (fun q : Nat => s.heap.size ≤ q) s.heap H locs) {ls : Array Slot} (hl : lv_has ls 4 [(3, .int 0), (2, .ref o), (1, .ref (u 0)), (0, .ref b)]) : W p l e room_1 s m #[Value.ref b] below meth c H locs 117 26266 (lw_Z below #[Value.ref b] s) (F0 m 739 ls []) := by
  obtain ⟨hx, hb, hr, hml, hown, hts, hX, hbl, hlocks, hgv⟩ := id C0
  have hA : ∀ q : Nat, s.heap.size ≤ q → (fun q : Nat => s.heap.size ≤ q) q := fun _ h => h
  have hbA : ¬ (fun q : Nat => s.heap.size ≤ q) b := Nat.not_le.mpr hbl
  have hg : ∀ w ∈ kG, w.before #[Value.ref b] s = true := fun w h => hts w (kG_in w h)
  have hown : s.vm.findClass RL = some m.cls := hown
  refine lv_aload_n hx hb dL_law_739 rfl (lv_at hl 2 rfl) ?_
  refine kI.callL (As := []) (rest := []) ⟨hx, hb, hml, hown, hg⟩ (x_longest l u xf0 xa0 xg0 rfl  ) (cwV 0 hg (kgV wt4_197 wt4_198 wt4_199 wt1_1 wt4_200) rfl rfl rfl (by decide +kernel) ⟨by decide, by decide⟩) hK hP hD hS hA 0 11 rfl rfl rfl hl.1 rfl (Nat.le_of_ble_eq_true rfl) dL_law_740 ⟨by decide, by decide⟩ (fun v1 u1 H locs hw1 hP hD hS => ?_)
  refine lv_aload_n hx hb dL_law_743 rfl (lv_at hl 1 rfl) ?_
  refine kI.callW (As := []) (rest := [.int v1]) ⟨hx, hb, hml, hown, hg⟩ (c_longest l o r f a g hF.2.2.2.2.2.2.2.2.2.2.2.1 ) (cwV 0 hg (kgV wt7_175 wt7_176 wt7_177 wt1_14 wt7_178) rfl rfl rfl (by decide +kernel) ⟨by decide, by decide⟩) hK hP hD hS hA 0 12 rfl rfl rfl hl.1 rfl (Nat.le_of_ble_eq_true rfl) dL_law_744 ⟨by decide, by decide⟩ (fun v2 u2 H locs hw2 hP hD hS => ?_)
  refine lv_icmp_eq (tgt := 1128) hx hb dL_law_747 (by decide) (fun c1 => ?_) (fun c1 => absurd (hw1.trans hw2.symm) c1)
  exact law_tail l C0 hS hl (by decide) (by decide)
set_option maxHeartbeats 4000000 in
set_option maxRecDepth 100000 in
theorem law_rows {p : Program} {e : Env} {s : State} {m : MethodId} {below : List Frame} {meth : Method} {c : Code} (l : Launch) {b : Nat} {xs : Nat → Int32} (C0 : lw_At p s m meth c b 6 xs) {D : va_G} {K : Nat → ClassId} (hK : va_K D vwCl (tysK K) s) (hE : kE K (fun q : Nat => s.heap.size ≤ q) s s.heap) (hT : kT (fun q : Nat => s.heap.size ≤ q) s s.heap) {u : Nat → Nat} {o : Nat} {r : Nat → Nat} {f : Nat → Int32} {a : Nat → Nat → Int32} {g : Nat → Int64} (hF : f 0 = 0 ∧ f 6 = 0 ∧ f 13 = 0 ∧ f 14 = (-1) ∧ f 33 = 0 ∧ f 37 = (-1) ∧ f 45 = (-1) ∧ a 2 22 = 0 ∧ a 2 99 = 30 ∧ a 2 100 = 2 ∧ a 2 101 = 0 ∧ a 2 102 = 0 ∧ a 2 103 = 0 ∧ a 2 104 = 0 ∧ a 2 105 = 0 ∧ a 2 106 = (-1) ∧ a 1 1 = 0 ∧ a 1 2 = 0 ∧ a 1 3 = 0 ∧ a 1 5 = 0 ∧ a 1 6 = 0 ∧ a 4 0 = 0 ∧ a 4 1 = 0) {H : Heap} {locs : List Loc} (hP : va_P D vwCl (xW K u xf0 xa0 xg0 ++ mW K o r f a g) H) (hD : va_D (fun q : Nat => s.heap.size ≤ q) (xW K u xf0 xa0 xg0 ++ mW K o r f a g)) (hS : va_S (fun q : Nat => s.heap.size ≤ q) s.heap H locs) {ls : Array Slot} (hl : lv_has ls 4 [(3, .int 0), (2, .ref o), (1, .ref (u 0)), (0, .ref b)]) : W p l e room_1 s m #[Value.ref b] below meth c H locs 117 26266 (lw_Z below #[Value.ref b] s) (F0 m 752 ls []) := by
  obtain ⟨hx, hb, hr, hml, hown, hts, hX, hbl, hlocks, hgv⟩ := id C0
  have hA : ∀ q : Nat, s.heap.size ≤ q → (fun q : Nat => s.heap.size ≤ q) q := fun _ h => h
  have hbA : ¬ (fun q : Nat => s.heap.size ≤ q) b := Nat.not_le.mpr hbl
  have hg : ∀ w ∈ kG, w.before #[Value.ref b] s = true := fun w h => hts w (kG_in w h)
  have hown : s.vm.findClass RL = some m.cls := hown
  refine lv_aload_n hx hb dL_law_752 rfl (lv_at hl 2 rfl) ?_
  refine lv_aload_n hx hb dL_law_753 rfl (lv_at hl 3 rfl) ?_
  refine lv_iload_n hx hb dL_law_754 rfl (lv_at hl 0 rfl) ?_
  refine lv_iconst (v := 1) hx hb dL_law_755 (by decide) ?_
  refine lv_iadd hx hb dL_law_756 ?_
  refine k_top (z := 1) (by decide +kernel) ?_
  refine va_sld hx hb hX hbl hbA hS (k_in (by decide +kernel)) dL_law_757 ?_
  refine k_top (z := xs 1) (by rw [cl_1]) ?_
  refine lv_aload_n hx hb dL_law_758 rfl (lv_at hl 3 rfl) ?_
  refine lv_iload_n hx hb dL_law_759 rfl (lv_at hl 0 rfl) ?_
  refine lv_iconst (v := 2) hx hb dL_law_760 (by decide) ?_
  refine lv_iadd hx hb dL_law_761 ?_
  refine k_top (z := 2) (by decide +kernel) ?_
  refine va_sld hx hb hX hbl hbA hS (k_in (by decide +kernel)) dL_law_762 ?_
  refine k_top (z := xs 2) (by rw [cl_2]) ?_
  refine kI.callL (As := [.int (xs 1), .int (xs 2)]) (rest := []) ⟨hx, hb, hml, hown, hg⟩ (x_rows l u xf0 xa0 xg0 rfl rfl (xs 1) (xs 2) ) (cwV 2 hg (kgV wt4_201 wt4_202 wt4_203 wt1_1 wt4_204) rfl rfl rfl (by decide +kernel) ⟨by decide, by decide⟩) hK hP hD hS hA 0 11 rfl rfl rfl hl.1 rfl (Nat.le_of_ble_eq_true rfl) dL_law_763 ⟨by decide, by decide⟩ (fun v1 u1 H locs hw1 hP hD hS => ?_)
  refine lv_aload_n hx hb dL_law_766 rfl (lv_at hl 1 rfl) ?_
  refine lv_aload_n hx hb dL_law_767 rfl (lv_at hl 3 rfl) ?_
  refine lv_iload_n hx hb dL_law_768 rfl (lv_at hl 0 rfl) ?_
  refine lv_iconst (v := 1) hx hb dL_law_769 (by decide) ?_
  refine lv_iadd hx hb dL_law_770 ?_
  refine k_top (z := 1) (by decide +kernel) ?_
  refine va_sld hx hb hX hbl hbA hS (k_in (by decide +kernel)) dL_law_771 ?_
  refine k_top (z := xs 1) (by rw [cl_1]) ?_
  refine lv_aload_n hx hb dL_law_772 rfl (lv_at hl 3 rfl) ?_
  refine lv_iload_n hx hb dL_law_773 rfl (lv_at hl 0 rfl) ?_
  refine lv_iconst (v := 2) hx hb dL_law_774 (by decide) ?_
  refine lv_iadd hx hb dL_law_775 ?_
  refine k_top (z := 2) (by decide +kernel) ?_
  refine va_sld hx hb hX hbl hbA hS (k_in (by decide +kernel)) dL_law_776 ?_
  refine k_top (z := xs 2) (by rw [cl_2]) ?_
  refine kI.callW (As := [.int (xs 1), .int (xs 2)]) (rest := [.int v1]) ⟨hx, hb, hml, hown, hg⟩ (c_rows l o r f a g hF.2.2.2.2.2.2.2.2.2.2.2.1 (xs 1) (xs 2)) (cwV 2 hg (kgV wt7_179 wt7_180 wt7_181 wt1_14 wt7_182) rfl rfl rfl (by decide +kernel) ⟨by decide, by decide⟩) hK hP hD hS hA 0 12 rfl rfl rfl hl.1 rfl (Nat.le_of_ble_eq_true rfl) dL_law_777 ⟨by decide, by decide⟩ (fun v2 u2 H locs hw2 hP hD hS => ?_)
  refine lv_icmp_eq (tgt := 1128) hx hb dL_law_780 (by decide) (fun c1 => ?_) (fun c1 => absurd (hw1.trans ((q_rows (xs 1)).trans hw2.symm)) c1)
  exact law_tail l C0 hS hl (by decide) (by decide)
set_option maxHeartbeats 4000000 in
set_option maxRecDepth 100000 in
theorem law_plan {p : Program} {e : Env} {s : State} {m : MethodId} {below : List Frame} {meth : Method} {c : Code} (l : Launch) {b : Nat} {xs : Nat → Int32} (C0 : lw_At p s m meth c b 6 xs) {D : va_G} {K : Nat → ClassId} (hK : va_K D vwCl (tysK K) s) (hE : kE K (fun q : Nat => s.heap.size ≤ q) s s.heap) (hT : kT (fun q : Nat => s.heap.size ≤ q) s s.heap) {u : Nat → Nat} {o : Nat} {r : Nat → Nat} {f : Nat → Int32} {a : Nat → Nat → Int32} {g : Nat → Int64} (hF : f 0 = 0 ∧ f 6 = 0 ∧ f 13 = 0 ∧ f 14 = (-1) ∧ f 33 = 0 ∧ f 37 = (-1) ∧ f 45 = (-1) ∧ a 2 22 = 0 ∧ a 2 99 = 30 ∧ a 2 100 = 2 ∧ a 2 101 = 0 ∧ a 2 102 = 0 ∧ a 2 103 = 0 ∧ a 2 104 = 0 ∧ a 2 105 = 0 ∧ a 2 106 = (-1) ∧ a 1 1 = 0 ∧ a 1 2 = 0 ∧ a 1 3 = 0 ∧ a 1 5 = 0 ∧ a 1 6 = 0 ∧ a 4 0 = 0 ∧ a 4 1 = 0) {H : Heap} {locs : List Loc} (hP : va_P D vwCl (xW K u xf0 xa0 xg0 ++ mW K o r f a g) H) (hD : va_D (fun q : Nat => s.heap.size ≤ q) (xW K u xf0 xa0 xg0 ++ mW K o r f a g)) (hS : va_S (fun q : Nat => s.heap.size ≤ q) s.heap H locs) {ls : Array Slot} (hl : lv_has ls 4 [(3, .int 0), (2, .ref o), (1, .ref (u 0)), (0, .ref b)]) : W p l e room_1 s m #[Value.ref b] below meth c H locs 117 26266 (lw_Z below #[Value.ref b] s) (F0 m 785 ls []) := by
  obtain ⟨hx, hb, hr, hml, hown, hts, hX, hbl, hlocks, hgv⟩ := id C0
  have hA : ∀ q : Nat, s.heap.size ≤ q → (fun q : Nat => s.heap.size ≤ q) q := fun _ h => h
  have hbA : ¬ (fun q : Nat => s.heap.size ≤ q) b := Nat.not_le.mpr hbl
  have hg : ∀ w ∈ kG, w.before #[Value.ref b] s = true := fun w h => hts w (kG_in w h)
  have hown : s.vm.findClass RL = some m.cls := hown
  refine lv_aload_n hx hb dL_law_785 rfl (lv_at hl 2 rfl) ?_
  refine lv_aload_n hx hb dL_law_786 rfl (lv_at hl 3 rfl) ?_
  refine lv_iload_n hx hb dL_law_787 rfl (lv_at hl 0 rfl) ?_
  refine lv_iconst (v := 1) hx hb dL_law_788 (by decide) ?_
  refine lv_iadd hx hb dL_law_789 ?_
  refine k_top (z := 1) (by decide +kernel) ?_
  refine va_sld hx hb hX hbl hbA hS (k_in (by decide +kernel)) dL_law_790 ?_
  refine k_top (z := xs 1) (by rw [cl_1]) ?_
  refine kI.callL (As := [.int (xs 1)]) (rest := []) ⟨hx, hb, hml, hown, hg⟩ (x_plan l u xf0 xa0 xg0 rfl rfl rfl rfl rfl rfl rfl rfl (fun _ => rfl) rfl (xs 1) ) (cwV 1 hg (kgV wt4_224 wt4_225 wt4_226 wt1_1 wt4_227) rfl rfl rfl (by decide +kernel) ⟨by decide, by decide⟩) hK hP hD hS hA 0 11 rfl rfl rfl hl.1 rfl (Nat.le_of_ble_eq_true rfl) dL_law_791 ⟨by decide, by decide⟩ (fun v1 u1 H locs hw1 hP hD hS => ?_)
  refine lv_aload_n hx hb dL_law_794 rfl (lv_at hl 1 rfl) ?_
  refine lv_aload_n hx hb dL_law_795 rfl (lv_at hl 3 rfl) ?_
  refine lv_iload_n hx hb dL_law_796 rfl (lv_at hl 0 rfl) ?_
  refine lv_iconst (v := 1) hx hb dL_law_797 (by decide) ?_
  refine lv_iadd hx hb dL_law_798 ?_
  refine k_top (z := 1) (by decide +kernel) ?_
  refine va_sld hx hb hX hbl hbA hS (k_in (by decide +kernel)) dL_law_799 ?_
  refine k_top (z := xs 1) (by rw [cl_1]) ?_
  refine kI.callW (As := [.int (xs 1)]) (rest := [.int v1]) ⟨hx, hb, hml, hown, hg⟩ (c_plan l o r f a g hF.2.2.2.2.2.2.2.2.2.2.2.1 hF.2.2.2.2.2.2.2.2.2.2.2.2.1 hF.2.2.2.2.2.2.2.2.2.2.2.2.2.1 hF.2.2.2.2.2.2.2.2.1 hF.2.2.2.2.2.2.2.2.2.1 (xs 1)) (cwV 1 hg (kgV wt7_195 wt7_196 wt7_197 wt1_14 wt7_198) rfl rfl rfl (by decide +kernel) ⟨by decide, by decide⟩) hK hP hD hS hA 0 12 rfl rfl rfl hl.1 rfl (Nat.le_of_ble_eq_true rfl) dL_law_800 ⟨by decide, by decide⟩ (fun v2 u2 H locs hw2 hP hD hS => ?_)
  refine lv_icmp_eq (tgt := 1128) hx hb dL_law_803 (by decide) (fun c1 => ?_) (fun c1 => absurd (hw1.trans hw2.1.symm) c1)
  exact law_tail l C0 hS hl (by decide) (by decide)
set_option maxHeartbeats 4000000 in
set_option maxRecDepth 100000 in
theorem law_hands {p : Program} {e : Env} {s : State} {m : MethodId} {below : List Frame} {meth : Method} {c : Code} (l : Launch) {b : Nat} {xs : Nat → Int32} (C0 : lw_At p s m meth c b 6 xs) {D : va_G} {K : Nat → ClassId} (hK : va_K D vwCl (tysK K) s) (hE : kE K (fun q : Nat => s.heap.size ≤ q) s s.heap) (hT : kT (fun q : Nat => s.heap.size ≤ q) s s.heap) {u : Nat → Nat} {o : Nat} {r : Nat → Nat} {f : Nat → Int32} {a : Nat → Nat → Int32} {g : Nat → Int64} (hF : f 0 = 0 ∧ f 6 = 0 ∧ f 13 = 0 ∧ f 14 = (-1) ∧ f 33 = 0 ∧ f 37 = (-1) ∧ f 45 = (-1) ∧ a 2 22 = 0 ∧ a 2 99 = 30 ∧ a 2 100 = 2 ∧ a 2 101 = 0 ∧ a 2 102 = 0 ∧ a 2 103 = 0 ∧ a 2 104 = 0 ∧ a 2 105 = 0 ∧ a 2 106 = (-1) ∧ a 1 1 = 0 ∧ a 1 2 = 0 ∧ a 1 3 = 0 ∧ a 1 5 = 0 ∧ a 1 6 = 0 ∧ a 4 0 = 0 ∧ a 4 1 = 0) {H : Heap} {locs : List Loc} (hP : va_P D vwCl (xW K u xf0 xa0 xg0 ++ mW K o r f a g) H) (hD : va_D (fun q : Nat => s.heap.size ≤ q) (xW K u xf0 xa0 xg0 ++ mW K o r f a g)) (hS : va_S (fun q : Nat => s.heap.size ≤ q) s.heap H locs) {ls : Array Slot} (hl : lv_has ls 4 [(3, .int 0), (2, .ref o), (1, .ref (u 0)), (0, .ref b)]) : W p l e room_1 s m #[Value.ref b] below meth c H locs 117 26266 (lw_Z below #[Value.ref b] s) (F0 m 808 ls []) := by
  obtain ⟨hx, hb, hr, hml, hown, hts, hX, hbl, hlocks, hgv⟩ := id C0
  have hA : ∀ q : Nat, s.heap.size ≤ q → (fun q : Nat => s.heap.size ≤ q) q := fun _ h => h
  have hbA : ¬ (fun q : Nat => s.heap.size ≤ q) b := Nat.not_le.mpr hbl
  have hg : ∀ w ∈ kG, w.before #[Value.ref b] s = true := fun w h => hts w (kG_in w h)
  have hown : s.vm.findClass RL = some m.cls := hown
  refine lv_aload_n hx hb dL_law_808 rfl (lv_at hl 2 rfl) ?_
  refine lv_aload_n hx hb dL_law_809 rfl (lv_at hl 3 rfl) ?_
  refine lv_iload_n hx hb dL_law_810 rfl (lv_at hl 0 rfl) ?_
  refine lv_iconst (v := 1) hx hb dL_law_811 (by decide) ?_
  refine lv_iadd hx hb dL_law_812 ?_
  refine k_top (z := 1) (by decide +kernel) ?_
  refine va_sld hx hb hX hbl hbA hS (k_in (by decide +kernel)) dL_law_813 ?_
  refine k_top (z := xs 1) (by rw [cl_1]) ?_
  refine kI.callL (As := [.int (xs 1)]) (rest := []) ⟨hx, hb, hml, hown, hg⟩ (x_hands l u xf0 xa0 xg0 rfl rfl rfl rfl rfl rfl rfl rfl (fun _ => rfl) rfl (xs 1) ) (cwV 1 hg (kgV wt5_28 wt5_29 wt5_30 wt1_1 wt5_31) rfl rfl rfl (by decide +kernel) ⟨by decide, by decide⟩) hK hP hD hS hA 0 11 rfl rfl rfl hl.1 rfl (Nat.le_of_ble_eq_true rfl) dL_law_814 ⟨by decide, by decide⟩ (fun v1 u1 H locs hw1 hP hD hS => ?_)
  refine lv_aload_n hx hb dL_law_817 rfl (lv_at hl 1 rfl) ?_
  refine lv_aload_n hx hb dL_law_818 rfl (lv_at hl 3 rfl) ?_
  refine lv_iload_n hx hb dL_law_819 rfl (lv_at hl 0 rfl) ?_
  refine lv_iconst (v := 1) hx hb dL_law_820 (by decide) ?_
  refine lv_iadd hx hb dL_law_821 ?_
  refine k_top (z := 1) (by decide +kernel) ?_
  refine va_sld hx hb hX hbl hbA hS (k_in (by decide +kernel)) dL_law_822 ?_
  refine k_top (z := xs 1) (by rw [cl_1]) ?_
  refine kI.callW (As := [.int (xs 1)]) (rest := [.int v1]) ⟨hx, hb, hml, hown, hg⟩ (c_hands l o r f a g hF.2.2.2.2.2.2.2.2.2.2.2.1 hF.2.2.2.2.2.2.2.2.2.2.2.2.1 hF.2.2.2.2.2.2.2.2.2.2.2.2.2.1 hF.2.2.2.2.2.2.2.2.1 hF.2.2.2.2.2.2.2.2.2.1 (xs 1)) (cwV 1 hg (kgV wt7_227 wt7_228 wt7_229 wt1_14 wt7_230) rfl rfl rfl (by decide +kernel) ⟨by decide, by decide⟩) hK hP hD hS hA 0 12 rfl rfl rfl hl.1 rfl (Nat.le_of_ble_eq_true rfl) dL_law_823 ⟨by decide, by decide⟩ (fun v2 u2 H locs hw2 hP hD hS => ?_)
  refine lv_icmp_eq (tgt := 1128) hx hb dL_law_826 (by decide) (fun c1 => ?_) (fun c1 => absurd (hw1.trans ((q_two' (xs 1) _ _).trans hw2.symm)) c1)
  exact law_tail l C0 hS hl (by decide) (by decide)
set_option maxHeartbeats 4000000 in
set_option maxRecDepth 100000 in
theorem law_taught {p : Program} {e : Env} {s : State} {m : MethodId} {below : List Frame} {meth : Method} {c : Code} (l : Launch) {b : Nat} {xs : Nat → Int32} (C0 : lw_At p s m meth c b 6 xs) {D : va_G} {K : Nat → ClassId} (hK : va_K D vwCl (tysK K) s) (hE : kE K (fun q : Nat => s.heap.size ≤ q) s s.heap) (hT : kT (fun q : Nat => s.heap.size ≤ q) s s.heap) {u : Nat → Nat} {o : Nat} {r : Nat → Nat} {f : Nat → Int32} {a : Nat → Nat → Int32} {g : Nat → Int64} (hF : f 0 = 0 ∧ f 6 = 0 ∧ f 13 = 0 ∧ f 14 = (-1) ∧ f 33 = 0 ∧ f 37 = (-1) ∧ f 45 = (-1) ∧ a 2 22 = 0 ∧ a 2 99 = 30 ∧ a 2 100 = 2 ∧ a 2 101 = 0 ∧ a 2 102 = 0 ∧ a 2 103 = 0 ∧ a 2 104 = 0 ∧ a 2 105 = 0 ∧ a 2 106 = (-1) ∧ a 1 1 = 0 ∧ a 1 2 = 0 ∧ a 1 3 = 0 ∧ a 1 5 = 0 ∧ a 1 6 = 0 ∧ a 4 0 = 0 ∧ a 4 1 = 0) {H : Heap} {locs : List Loc} (hP : va_P D vwCl (xW K u xf0 xa0 xg0 ++ mW K o r f a g) H) (hD : va_D (fun q : Nat => s.heap.size ≤ q) (xW K u xf0 xa0 xg0 ++ mW K o r f a g)) (hS : va_S (fun q : Nat => s.heap.size ≤ q) s.heap H locs) {ls : Array Slot} (hl : lv_has ls 4 [(3, .int 0), (2, .ref o), (1, .ref (u 0)), (0, .ref b)]) : W p l e room_1 s m #[Value.ref b] below meth c H locs 117 26266 (lw_Z below #[Value.ref b] s) (F0 m 831 ls []) := by
  obtain ⟨hx, hb, hr, hml, hown, hts, hX, hbl, hlocks, hgv⟩ := id C0
  have hA : ∀ q : Nat, s.heap.size ≤ q → (fun q : Nat => s.heap.size ≤ q) q := fun _ h => h
  have hbA : ¬ (fun q : Nat => s.heap.size ≤ q) b := Nat.not_le.mpr hbl
  have hg : ∀ w ∈ kG, w.before #[Value.ref b] s = true := fun w h => hts w (kG_in w h)
  have hown : s.vm.findClass RL = some m.cls := hown
  refine lv_aload_n hx hb dL_law_831 rfl (lv_at hl 2 rfl) ?_
  refine lv_aload_n hx hb dL_law_832 rfl (lv_at hl 3 rfl) ?_
  refine lv_iload_n hx hb dL_law_833 rfl (lv_at hl 0 rfl) ?_
  refine lv_iconst (v := 1) hx hb dL_law_834 (by decide) ?_
  refine lv_iadd hx hb dL_law_835 ?_
  refine k_top (z := 1) (by decide +kernel) ?_
  refine va_sld hx hb hX hbl hbA hS (k_in (by decide +kernel)) dL_law_836 ?_
  refine k_top (z := xs 1) (by rw [cl_1]) ?_
  refine kI.callL (As := [.int (xs 1)]) (rest := []) ⟨hx, hb, hml, hown, hg⟩ (x_taught l u xf0 xa0 xg0 rfl rfl rfl rfl rfl rfl rfl rfl (fun _ => rfl) rfl rfl (xs 1) ) (cwV 1 hg (kgV wt5_43 wt5_44 wt5_45 wt1_1 wt5_46) rfl rfl rfl (by decide +kernel) ⟨by decide, by decide⟩) hK hP hD hS hA 0 11 rfl rfl rfl hl.1 rfl (Nat.le_of_ble_eq_true rfl) dL_law_837 ⟨by decide, by decide⟩ (fun v1 u1 H locs hw1 hP hD hS => ?_)
  refine lv_aload_n hx hb dL_law_840 rfl (lv_at hl 1 rfl) ?_
  refine lv_aload_n hx hb dL_law_841 rfl (lv_at hl 3 rfl) ?_
  refine lv_iload_n hx hb dL_law_842 rfl (lv_at hl 0 rfl) ?_
  refine lv_iconst (v := 1) hx hb dL_law_843 (by decide) ?_
  refine lv_iadd hx hb dL_law_844 ?_
  refine k_top (z := 1) (by decide +kernel) ?_
  refine va_sld hx hb hX hbl hbA hS (k_in (by decide +kernel)) dL_law_845 ?_
  refine k_top (z := xs 1) (by rw [cl_1]) ?_
  refine kI.callW (As := [.int (xs 1)]) (rest := [.int v1]) ⟨hx, hb, hml, hown, hg⟩ (c_taught l o r f a g hF.2.2.2.2.2.2.2.2.2.2.2.1 hF.2.2.2.2.2.2.2.2.2.2.2.2.1 hF.2.2.2.2.2.2.2.2.2.2.2.2.2.1 hF.2.2.2.2.2.2.2.2.1 hF.2.2.2.2.2.2.2.2.2.1 (xs 1)) (cwV 1 hg (kgV wt7_231 wt7_232 wt7_233 wt1_14 wt7_234) rfl rfl rfl (by decide +kernel) ⟨by decide, by decide⟩) hK hP hD hS hA 0 12 rfl rfl rfl hl.1 rfl (Nat.le_of_ble_eq_true rfl) dL_law_846 ⟨by decide, by decide⟩ (fun v2 u2 H locs hw2 hP hD hS => ?_)
  refine lv_icmp_eq (tgt := 1128) hx hb dL_law_849 (by decide) (fun c1 => ?_) (fun c1 => absurd (hw1.trans hw2.symm) c1)
  exact law_tail l C0 hS hl (by decide) (by decide)
set_option maxHeartbeats 4000000 in
set_option maxRecDepth 100000 in
theorem law_unseen {p : Program} {e : Env} {s : State} {m : MethodId} {below : List Frame} {meth : Method} {c : Code} (l : Launch) {b : Nat} {xs : Nat → Int32} (C0 : lw_At p s m meth c b 6 xs) {D : va_G} {K : Nat → ClassId} (hK : va_K D vwCl (tysK K) s) (hE : kE K (fun q : Nat => s.heap.size ≤ q) s s.heap) (hT : kT (fun q : Nat => s.heap.size ≤ q) s s.heap) {u : Nat → Nat} {o : Nat} {r : Nat → Nat} {f : Nat → Int32} {a : Nat → Nat → Int32} {g : Nat → Int64} (hF : f 0 = 0 ∧ f 6 = 0 ∧ f 13 = 0 ∧ f 14 = (-1) ∧ f 33 = 0 ∧ f 37 = (-1) ∧ f 45 = (-1) ∧ a 2 22 = 0 ∧ a 2 99 = 30 ∧ a 2 100 = 2 ∧ a 2 101 = 0 ∧ a 2 102 = 0 ∧ a 2 103 = 0 ∧ a 2 104 = 0 ∧ a 2 105 = 0 ∧ a 2 106 = (-1) ∧ a 1 1 = 0 ∧ a 1 2 = 0 ∧ a 1 3 = 0 ∧ a 1 5 = 0 ∧ a 1 6 = 0 ∧ a 4 0 = 0 ∧ a 4 1 = 0) {H : Heap} {locs : List Loc} (hP : va_P D vwCl (xW K u xf0 xa0 xg0 ++ mW K o r f a g) H) (hD : va_D (fun q : Nat => s.heap.size ≤ q) (xW K u xf0 xa0 xg0 ++ mW K o r f a g)) (hS : va_S (fun q : Nat => s.heap.size ≤ q) s.heap H locs) {ls : Array Slot} (hl : lv_has ls 4 [(3, .int 0), (2, .ref o), (1, .ref (u 0)), (0, .ref b)]) : W p l e room_1 s m #[Value.ref b] below meth c H locs 117 26266 (lw_Z below #[Value.ref b] s) (F0 m 854 ls []) := by
  obtain ⟨hx, hb, hr, hml, hown, hts, hX, hbl, hlocks, hgv⟩ := id C0
  have hA : ∀ q : Nat, s.heap.size ≤ q → (fun q : Nat => s.heap.size ≤ q) q := fun _ h => h
  have hbA : ¬ (fun q : Nat => s.heap.size ≤ q) b := Nat.not_le.mpr hbl
  have hg : ∀ w ∈ kG, w.before #[Value.ref b] s = true := fun w h => hts w (kG_in w h)
  have hown : s.vm.findClass RL = some m.cls := hown
  refine lv_aload_n hx hb dL_law_854 rfl (lv_at hl 2 rfl) ?_
  refine lv_aload_n hx hb dL_law_855 rfl (lv_at hl 3 rfl) ?_
  refine lv_iload_n hx hb dL_law_856 rfl (lv_at hl 0 rfl) ?_
  refine lv_iconst (v := 1) hx hb dL_law_857 (by decide) ?_
  refine lv_iadd hx hb dL_law_858 ?_
  refine k_top (z := 1) (by decide +kernel) ?_
  refine va_sld hx hb hX hbl hbA hS (k_in (by decide +kernel)) dL_law_859 ?_
  refine k_top (z := xs 1) (by rw [cl_1]) ?_
  refine kL.callL (As := [.int (xs 1)]) (rest := []) ⟨hx, hb, hml, hown, hg⟩ (x_unseen l u xf0 xa0 xg0 rfl rfl rfl rfl rfl rfl rfl rfl (fun _ => rfl) (xs 1) ) (cwV 1 hg (kgV wt5_60 wt5_61 wt5_62 wt1_1 wt5_63) rfl rfl rfl (by decide +kernel) ⟨by decide, by decide⟩) hK hP hD hS hA 0 11 rfl rfl rfl hl.1 rfl (Nat.le_of_ble_eq_true rfl) dL_law_860 ⟨by decide, by decide⟩ (fun v1 u1 H locs hw1 hP hD hS => ?_)
  refine lv_aload_n hx hb dL_law_863 rfl (lv_at hl 1 rfl) ?_
  refine lv_aload_n hx hb dL_law_864 rfl (lv_at hl 3 rfl) ?_
  refine lv_iload_n hx hb dL_law_865 rfl (lv_at hl 0 rfl) ?_
  refine lv_iconst (v := 1) hx hb dL_law_866 (by decide) ?_
  refine lv_iadd hx hb dL_law_867 ?_
  refine k_top (z := 1) (by decide +kernel) ?_
  refine va_sld hx hb hX hbl hbA hS (k_in (by decide +kernel)) dL_law_868 ?_
  refine k_top (z := xs 1) (by rw [cl_1]) ?_
  refine kL.callW (As := [.int (xs 1)]) (rest := [.long v1]) ⟨hx, hb, hml, hown, hg⟩ (c_unseen l o r f a g hF.2.2.2.2.2.2.2.2.2.2.2.1 hF.2.2.2.2.2.2.2.2.2.2.2.2.1 hF.2.2.2.2.2.2.2.2.2.2.2.2.2.1 hF.2.2.2.2.2.2.2.2.1 hF.2.2.2.2.2.2.2.2.2.1 (xs 1)) (cwV 1 hg (kgV wt8_0 wt8_1 wt8_2 wt1_14 wt8_3) rfl rfl rfl (by decide +kernel) ⟨by decide, by decide⟩) hK hP hD hS hA 0 12 rfl rfl rfl hl.1 rfl (Nat.le_of_ble_eq_true rfl) dL_law_869 ⟨by decide, by decide⟩ (fun v2 u2 H locs hw2 hP hD hS => ?_)
  refine W.lcmp hx hb dL_law_872 ?_
  have heq : v1 = v2 := hw1.trans ((q_unseen (xs 1)).trans hw2.symm)
  subst heq
  refine k_top (z := 0) (lcmp_same _) ?_
  refine lv_if_eq (tgt := 1128) hx hb dL_law_873 (by decide) (fun c1 => ?_) (fun c1 => absurd rfl c1)
  exact law_tail l C0 hS hl (by decide) (by decide)
set_option maxHeartbeats 4000000 in
set_option maxRecDepth 100000 in
theorem law_sight {p : Program} {e : Env} {s : State} {m : MethodId} {below : List Frame} {meth : Method} {c : Code} (l : Launch) {b : Nat} {xs : Nat → Int32} (C0 : lw_At p s m meth c b 6 xs) {D : va_G} {K : Nat → ClassId} (hK : va_K D vwCl (tysK K) s) (hE : kE K (fun q : Nat => s.heap.size ≤ q) s s.heap) (hT : kT (fun q : Nat => s.heap.size ≤ q) s s.heap) {u : Nat → Nat} {o : Nat} {r : Nat → Nat} {f : Nat → Int32} {a : Nat → Nat → Int32} {g : Nat → Int64} (hF : f 0 = 0 ∧ f 6 = 0 ∧ f 13 = 0 ∧ f 14 = (-1) ∧ f 33 = 0 ∧ f 37 = (-1) ∧ f 45 = (-1) ∧ a 2 22 = 0 ∧ a 2 99 = 30 ∧ a 2 100 = 2 ∧ a 2 101 = 0 ∧ a 2 102 = 0 ∧ a 2 103 = 0 ∧ a 2 104 = 0 ∧ a 2 105 = 0 ∧ a 2 106 = (-1) ∧ a 1 1 = 0 ∧ a 1 2 = 0 ∧ a 1 3 = 0 ∧ a 1 5 = 0 ∧ a 1 6 = 0 ∧ a 4 0 = 0 ∧ a 4 1 = 0) {H : Heap} {locs : List Loc} (hP : va_P D vwCl (xW K u xf0 xa0 xg0 ++ mW K o r f a g) H) (hD : va_D (fun q : Nat => s.heap.size ≤ q) (xW K u xf0 xa0 xg0 ++ mW K o r f a g)) (hS : va_S (fun q : Nat => s.heap.size ≤ q) s.heap H locs) {ls : Array Slot} (hl : lv_has ls 4 [(3, .int 0), (2, .ref o), (1, .ref (u 0)), (0, .ref b)]) : W p l e room_1 s m #[Value.ref b] below meth c H locs 117 26266 (lw_Z below #[Value.ref b] s) (F0 m 878 ls []) := by
  obtain ⟨hx, hb, hr, hml, hown, hts, hX, hbl, hlocks, hgv⟩ := id C0
  have hA : ∀ q : Nat, s.heap.size ≤ q → (fun q : Nat => s.heap.size ≤ q) q := fun _ h => h
  have hbA : ¬ (fun q : Nat => s.heap.size ≤ q) b := Nat.not_le.mpr hbl
  have hg : ∀ w ∈ kG, w.before #[Value.ref b] s = true := fun w h => hts w (kG_in w h)
  have hown : s.vm.findClass RL = some m.cls := hown
  refine lv_aload_n hx hb dL_law_878 rfl (lv_at hl 2 rfl) ?_
  refine lv_aload_n hx hb dL_law_879 rfl (lv_at hl 3 rfl) ?_
  refine lv_iload_n hx hb dL_law_880 rfl (lv_at hl 0 rfl) ?_
  refine lv_iconst (v := 1) hx hb dL_law_881 (by decide) ?_
  refine lv_iadd hx hb dL_law_882 ?_
  refine k_top (z := 1) (by decide +kernel) ?_
  refine va_sld hx hb hX hbl hbA hS (k_in (by decide +kernel)) dL_law_883 ?_
  refine k_top (z := xs 1) (by rw [cl_1]) ?_
  refine lv_aload_n hx hb dL_law_884 rfl (lv_at hl 3 rfl) ?_
  refine lv_iload_n hx hb dL_law_885 rfl (lv_at hl 0 rfl) ?_
  refine lv_iconst (v := 2) hx hb dL_law_886 (by decide) ?_
  refine lv_iadd hx hb dL_law_887 ?_
  refine k_top (z := 2) (by decide +kernel) ?_
  refine va_sld hx hb hX hbl hbA hS (k_in (by decide +kernel)) dL_law_888 ?_
  refine k_top (z := xs 2) (by rw [cl_2]) ?_
  refine lv_aload_n hx hb dL_law_889 rfl (lv_at hl 3 rfl) ?_
  refine lv_iload_n hx hb dL_law_890 rfl (lv_at hl 0 rfl) ?_
  refine lv_iconst (v := 3) hx hb dL_law_891 (by decide) ?_
  refine lv_iadd hx hb dL_law_892 ?_
  refine k_top (z := 3) (by decide +kernel) ?_
  refine va_sld hx hb hX hbl hbA hS (k_in (by decide +kernel)) dL_law_893 ?_
  refine k_top (z := xs 3) (by rw [cl_3]) ?_
  refine kI.callL (As := [.int (xs 1), .int (xs 2), .int (xs 3)]) (rest := []) ⟨hx, hb, hml, hown, hg⟩ (x_sight l u xf0 xa0 xg0 rfl (xs 1) (xs 2) (xs 3) ) (cwV 3 hg (kgV wt5_77 wt5_78 wt5_79 wt1_1 wt5_80) rfl rfl rfl (by decide +kernel) ⟨by decide, by decide⟩) hK hP hD hS hA 0 11 rfl rfl rfl hl.1 rfl (Nat.le_of_ble_eq_true rfl) dL_law_894 ⟨by decide, by decide⟩ (fun v1 u1 H locs hw1 hP hD hS => ?_)
  refine lv_aload_n hx hb dL_law_897 rfl (lv_at hl 1 rfl) ?_
  refine lv_aload_n hx hb dL_law_898 rfl (lv_at hl 3 rfl) ?_
  refine lv_iload_n hx hb dL_law_899 rfl (lv_at hl 0 rfl) ?_
  refine lv_iconst (v := 1) hx hb dL_law_900 (by decide) ?_
  refine lv_iadd hx hb dL_law_901 ?_
  refine k_top (z := 1) (by decide +kernel) ?_
  refine va_sld hx hb hX hbl hbA hS (k_in (by decide +kernel)) dL_law_902 ?_
  refine k_top (z := xs 1) (by rw [cl_1]) ?_
  refine lv_aload_n hx hb dL_law_903 rfl (lv_at hl 3 rfl) ?_
  refine lv_iload_n hx hb dL_law_904 rfl (lv_at hl 0 rfl) ?_
  refine lv_iconst (v := 2) hx hb dL_law_905 (by decide) ?_
  refine lv_iadd hx hb dL_law_906 ?_
  refine k_top (z := 2) (by decide +kernel) ?_
  refine va_sld hx hb hX hbl hbA hS (k_in (by decide +kernel)) dL_law_907 ?_
  refine k_top (z := xs 2) (by rw [cl_2]) ?_
  refine lv_aload_n hx hb dL_law_908 rfl (lv_at hl 3 rfl) ?_
  refine lv_iload_n hx hb dL_law_909 rfl (lv_at hl 0 rfl) ?_
  refine lv_iconst (v := 3) hx hb dL_law_910 (by decide) ?_
  refine lv_iadd hx hb dL_law_911 ?_
  refine k_top (z := 3) (by decide +kernel) ?_
  refine va_sld hx hb hX hbl hbA hS (k_in (by decide +kernel)) dL_law_912 ?_
  refine k_top (z := xs 3) (by rw [cl_3]) ?_
  refine kI.callW (As := [.int (xs 1), .int (xs 2), .int (xs 3)]) (rest := [.int v1]) ⟨hx, hb, hml, hown, hg⟩ (c_sight l o r f a g hF.2.2.2.2.2.2.2.2.2.2.2.1 (xs 1) (xs 2) (xs 3)) (cwV 3 hg (kgV wt8_7 wt8_8 wt8_9 wt1_14 wt8_10) rfl rfl rfl (by decide +kernel) ⟨by decide, by decide⟩) hK hP hD hS hA 0 12 rfl rfl rfl hl.1 rfl (Nat.le_of_ble_eq_true rfl) dL_law_913 ⟨by decide, by decide⟩ (fun v2 u2 H locs hw2 hP hD hS => ?_)
  refine lv_icmp_eq (tgt := 1128) hx hb dL_law_916 (by decide) (fun c1 => ?_) (fun c1 => absurd (hw1.trans ((q_sight (xs 1) (xs 3)).trans hw2.symm)) c1)
  exact law_tail l C0 hS hl (by decide) (by decide)
set_option maxHeartbeats 4000000 in
set_option maxRecDepth 100000 in
theorem law_forget {p : Program} {e : Env} {s : State} {m : MethodId} {below : List Frame} {meth : Method} {c : Code} (l : Launch) {b : Nat} {xs : Nat → Int32} (C0 : lw_At p s m meth c b 6 xs) {D : va_G} {K : Nat → ClassId} (hK : va_K D vwCl (tysK K) s) (hE : kE K (fun q : Nat => s.heap.size ≤ q) s s.heap) (hT : kT (fun q : Nat => s.heap.size ≤ q) s s.heap) {u : Nat → Nat} {o : Nat} {r : Nat → Nat} {f : Nat → Int32} {a : Nat → Nat → Int32} {g : Nat → Int64} (hF : f 0 = 0 ∧ f 6 = 0 ∧ f 13 = 0 ∧ f 14 = (-1) ∧ f 33 = 0 ∧ f 37 = (-1) ∧ f 45 = (-1) ∧ a 2 22 = 0 ∧ a 2 99 = 30 ∧ a 2 100 = 2 ∧ a 2 101 = 0 ∧ a 2 102 = 0 ∧ a 2 103 = 0 ∧ a 2 104 = 0 ∧ a 2 105 = 0 ∧ a 2 106 = (-1) ∧ a 1 1 = 0 ∧ a 1 2 = 0 ∧ a 1 3 = 0 ∧ a 1 5 = 0 ∧ a 1 6 = 0 ∧ a 4 0 = 0 ∧ a 4 1 = 0) {H : Heap} {locs : List Loc} (hP : va_P D vwCl (xW K u xf0 xa0 xg0 ++ mW K o r f a g) H) (hD : va_D (fun q : Nat => s.heap.size ≤ q) (xW K u xf0 xa0 xg0 ++ mW K o r f a g)) (hS : va_S (fun q : Nat => s.heap.size ≤ q) s.heap H locs) {ls : Array Slot} (hl : lv_has ls 4 [(3, .int 0), (2, .ref o), (1, .ref (u 0)), (0, .ref b)]) : W p l e room_1 s m #[Value.ref b] below meth c H locs 117 26266 (lw_Z below #[Value.ref b] s) (F0 m 921 ls []) := by
  obtain ⟨hx, hb, hr, hml, hown, hts, hX, hbl, hlocks, hgv⟩ := id C0
  have hA : ∀ q : Nat, s.heap.size ≤ q → (fun q : Nat => s.heap.size ≤ q) q := fun _ h => h
  have hbA : ¬ (fun q : Nat => s.heap.size ≤ q) b := Nat.not_le.mpr hbl
  have hg : ∀ w ∈ kG, w.before #[Value.ref b] s = true := fun w h => hts w (kG_in w h)
  have hown : s.vm.findClass RL = some m.cls := hown
  refine lv_aload_n hx hb dL_law_921 rfl (lv_at hl 2 rfl) ?_
  refine kI.callL (As := []) (rest := []) ⟨hx, hb, hml, hown, hg⟩ (x_forget l u xf0 xa0 xg0 rfl  ) (cwV 0 hg (kgV wt5_81 wt5_82 wt5_83 wt1_1 wt5_84) rfl rfl rfl (by decide +kernel) ⟨by decide, by decide⟩) hK hP hD hS hA 0 11 rfl rfl rfl hl.1 rfl (Nat.le_of_ble_eq_true rfl) dL_law_922 ⟨by decide, by decide⟩ (fun v1 u1 H locs hw1 hP hD hS => ?_)
  refine lv_aload_n hx hb dL_law_925 rfl (lv_at hl 1 rfl) ?_
  refine kI.callW (As := []) (rest := [.int v1]) ⟨hx, hb, hml, hown, hg⟩ (c_forget l o r f a g hF.2.2.2.2.2.2.2.2.2.2.2.2.2.1 ) (cwV 0 hg (kgV wt8_11 wt8_12 wt8_13 wt1_14 wt8_14) rfl rfl rfl (by decide +kernel) ⟨by decide, by decide⟩) hK hP hD hS hA 0 12 rfl rfl rfl hl.1 rfl (Nat.le_of_ble_eq_true rfl) dL_law_926 ⟨by decide, by decide⟩ (fun v2 u2 H locs hw2 hP hD hS => ?_)
  refine lv_icmp_eq (tgt := 1128) hx hb dL_law_929 (by decide) (fun c1 => ?_) (fun c1 => absurd (hw1.trans hw2.symm) c1)
  exact law_tail l C0 hS hl (by decide) (by decide)
set_option maxHeartbeats 4000000 in
set_option maxRecDepth 100000 in
theorem law_whose {p : Program} {e : Env} {s : State} {m : MethodId} {below : List Frame} {meth : Method} {c : Code} (l : Launch) {b : Nat} {xs : Nat → Int32} (C0 : lw_At p s m meth c b 6 xs) {D : va_G} {K : Nat → ClassId} (hK : va_K D vwCl (tysK K) s) (hE : kE K (fun q : Nat => s.heap.size ≤ q) s s.heap) (hT : kT (fun q : Nat => s.heap.size ≤ q) s s.heap) {u : Nat → Nat} {o : Nat} {r : Nat → Nat} {f : Nat → Int32} {a : Nat → Nat → Int32} {g : Nat → Int64} (hF : f 0 = 0 ∧ f 6 = 0 ∧ f 13 = 0 ∧ f 14 = (-1) ∧ f 33 = 0 ∧ f 37 = (-1) ∧ f 45 = (-1) ∧ a 2 22 = 0 ∧ a 2 99 = 30 ∧ a 2 100 = 2 ∧ a 2 101 = 0 ∧ a 2 102 = 0 ∧ a 2 103 = 0 ∧ a 2 104 = 0 ∧ a 2 105 = 0 ∧ a 2 106 = (-1) ∧ a 1 1 = 0 ∧ a 1 2 = 0 ∧ a 1 3 = 0 ∧ a 1 5 = 0 ∧ a 1 6 = 0 ∧ a 4 0 = 0 ∧ a 4 1 = 0) {H : Heap} {locs : List Loc} (hP : va_P D vwCl (xW K u xf0 xa0 xg0 ++ mW K o r f a g) H) (hD : va_D (fun q : Nat => s.heap.size ≤ q) (xW K u xf0 xa0 xg0 ++ mW K o r f a g)) (hS : va_S (fun q : Nat => s.heap.size ≤ q) s.heap H locs) {ls : Array Slot} (hl : lv_has ls 4 [(3, .int 0), (2, .ref o), (1, .ref (u 0)), (0, .ref b)]) : W p l e room_1 s m #[Value.ref b] below meth c H locs 117 26266 (lw_Z below #[Value.ref b] s) (F0 m 934 ls []) := by
  obtain ⟨hx, hb, hr, hml, hown, hts, hX, hbl, hlocks, hgv⟩ := id C0
  have hA : ∀ q : Nat, s.heap.size ≤ q → (fun q : Nat => s.heap.size ≤ q) q := fun _ h => h
  have hbA : ¬ (fun q : Nat => s.heap.size ≤ q) b := Nat.not_le.mpr hbl
  have hg : ∀ w ∈ kG, w.before #[Value.ref b] s = true := fun w h => hts w (kG_in w h)
  have hown : s.vm.findClass RL = some m.cls := hown
  refine lv_aload_n hx hb dL_law_934 rfl (lv_at hl 2 rfl) ?_
  refine lv_aload_n hx hb dL_law_935 rfl (lv_at hl 3 rfl) ?_
  refine lv_iload_n hx hb dL_law_936 rfl (lv_at hl 0 rfl) ?_
  refine lv_iconst (v := 1) hx hb dL_law_937 (by decide) ?_
  refine lv_iadd hx hb dL_law_938 ?_
  refine k_top (z := 1) (by decide +kernel) ?_
  refine va_sld hx hb hX hbl hbA hS (k_in (by decide +kernel)) dL_law_939 ?_
  refine k_top (z := xs 1) (by rw [cl_1]) ?_
  refine kI.callL (As := [.int (xs 1)]) (rest := []) ⟨hx, hb, hml, hown, hg⟩ (x_whose l u xf0 xa0 xg0 rfl rfl rfl rfl rfl rfl rfl rfl (fun _ => rfl) rfl (xs 1) ) (cwV 1 hg (kgV wt5_85 wt5_86 wt5_87 wt1_1 wt5_88) rfl rfl rfl (by decide +kernel) ⟨by decide, by decide⟩) hK hP hD hS hA 0 11 rfl rfl rfl hl.1 rfl (Nat.le_of_ble_eq_true rfl) dL_law_940 ⟨by decide, by decide⟩ (fun v1 u1 H locs hw1 hP hD hS => ?_)
  refine lv_aload_n hx hb dL_law_943 rfl (lv_at hl 1 rfl) ?_
  refine lv_aload_n hx hb dL_law_944 rfl (lv_at hl 3 rfl) ?_
  refine lv_iload_n hx hb dL_law_945 rfl (lv_at hl 0 rfl) ?_
  refine lv_iconst (v := 1) hx hb dL_law_946 (by decide) ?_
  refine lv_iadd hx hb dL_law_947 ?_
  refine k_top (z := 1) (by decide +kernel) ?_
  refine va_sld hx hb hX hbl hbA hS (k_in (by decide +kernel)) dL_law_948 ?_
  refine k_top (z := xs 1) (by rw [cl_1]) ?_
  refine kI.callW (As := [.int (xs 1)]) (rest := [.int v1]) ⟨hx, hb, hml, hown, hg⟩ (c_whose l o r f a g hF.2.2.2.2.2.2.2.2.2.2.2.1 hF.2.2.2.2.2.2.2.2.2.2.2.2.1 hF.2.2.2.2.2.2.2.2.2.2.2.2.2.1 hF.2.2.2.2.2.2.2.2.1 hF.2.2.2.2.2.2.2.2.2.1 (xs 1)) (cwV 1 hg (kgV wt8_15 wt8_16 wt8_17 wt1_14 wt8_18) rfl rfl rfl (by decide +kernel) ⟨by decide, by decide⟩) hK hP hD hS hA 0 12 rfl rfl rfl hl.1 rfl (Nat.le_of_ble_eq_true rfl) dL_law_949 ⟨by decide, by decide⟩ (fun v2 u2 H locs hw2 hP hD hS => ?_)
  refine lv_icmp_eq (tgt := 1128) hx hb dL_law_952 (by decide) (fun c1 => ?_) (fun c1 => absurd (hw1.trans ((q_whose (xs 1)).trans hw2.symm)) c1)
  exact law_tail l C0 hS hl (by decide) (by decide)
set_option maxHeartbeats 4000000 in
set_option maxRecDepth 100000 in
theorem law_look {p : Program} {e : Env} {s : State} {m : MethodId} {below : List Frame} {meth : Method} {c : Code} (l : Launch) {b : Nat} {xs : Nat → Int32} (C0 : lw_At p s m meth c b 6 xs) {D : va_G} {K : Nat → ClassId} (hK : va_K D vwCl (tysK K) s) (hE : kE K (fun q : Nat => s.heap.size ≤ q) s s.heap) (hT : kT (fun q : Nat => s.heap.size ≤ q) s s.heap) {u : Nat → Nat} {o : Nat} {r : Nat → Nat} {f : Nat → Int32} {a : Nat → Nat → Int32} {g : Nat → Int64} (hF : f 0 = 0 ∧ f 6 = 0 ∧ f 13 = 0 ∧ f 14 = (-1) ∧ f 33 = 0 ∧ f 37 = (-1) ∧ f 45 = (-1) ∧ a 2 22 = 0 ∧ a 2 99 = 30 ∧ a 2 100 = 2 ∧ a 2 101 = 0 ∧ a 2 102 = 0 ∧ a 2 103 = 0 ∧ a 2 104 = 0 ∧ a 2 105 = 0 ∧ a 2 106 = (-1) ∧ a 1 1 = 0 ∧ a 1 2 = 0 ∧ a 1 3 = 0 ∧ a 1 5 = 0 ∧ a 1 6 = 0 ∧ a 4 0 = 0 ∧ a 4 1 = 0) {H : Heap} {locs : List Loc} (hP : va_P D vwCl (xW K u xf0 xa0 xg0 ++ mW K o r f a g) H) (hD : va_D (fun q : Nat => s.heap.size ≤ q) (xW K u xf0 xa0 xg0 ++ mW K o r f a g)) (hS : va_S (fun q : Nat => s.heap.size ≤ q) s.heap H locs) {ls : Array Slot} (hl : lv_has ls 4 [(3, .int 0), (2, .ref o), (1, .ref (u 0)), (0, .ref b)]) : W p l e room_1 s m #[Value.ref b] below meth c H locs 117 26266 (lw_Z below #[Value.ref b] s) (F0 m 957 ls []) := by
  obtain ⟨hx, hb, hr, hml, hown, hts, hX, hbl, hlocks, hgv⟩ := id C0
  have hA : ∀ q : Nat, s.heap.size ≤ q → (fun q : Nat => s.heap.size ≤ q) q := fun _ h => h
  have hbA : ¬ (fun q : Nat => s.heap.size ≤ q) b := Nat.not_le.mpr hbl
  have hg : ∀ w ∈ kG, w.before #[Value.ref b] s = true := fun w h => hts w (kG_in w h)
  have hown : s.vm.findClass RL = some m.cls := hown
  refine lv_aload_n hx hb dL_law_957 rfl (lv_at hl 2 rfl) ?_
  refine lv_aload_n hx hb dL_law_958 rfl (lv_at hl 3 rfl) ?_
  refine lv_iload_n hx hb dL_law_959 rfl (lv_at hl 0 rfl) ?_
  refine lv_iconst (v := 1) hx hb dL_law_960 (by decide) ?_
  refine lv_iadd hx hb dL_law_961 ?_
  refine k_top (z := 1) (by decide +kernel) ?_
  refine va_sld hx hb hX hbl hbA hS (k_in (by decide +kernel)) dL_law_962 ?_
  refine k_top (z := xs 1) (by rw [cl_1]) ?_
  refine kI.callL (As := [.int (xs 1)]) (rest := []) ⟨hx, hb, hml, hown, hg⟩ (x_look l u xf0 xa0 xg0 rfl rfl rfl rfl rfl rfl rfl rfl (fun _ => rfl) rfl (xs 1) ) (cwV 1 hg (kgV wt5_101 wt5_102 wt5_103 wt1_1 wt5_104) rfl rfl rfl (by decide +kernel) ⟨by decide, by decide⟩) hK hP hD hS hA 0 11 rfl rfl rfl hl.1 rfl (Nat.le_of_ble_eq_true rfl) dL_law_963 ⟨by decide, by decide⟩ (fun v1 u1 H locs hw1 hP hD hS => ?_)
  refine lv_aload_n hx hb dL_law_966 rfl (lv_at hl 1 rfl) ?_
  refine lv_aload_n hx hb dL_law_967 rfl (lv_at hl 3 rfl) ?_
  refine lv_iload_n hx hb dL_law_968 rfl (lv_at hl 0 rfl) ?_
  refine lv_iconst (v := 1) hx hb dL_law_969 (by decide) ?_
  refine lv_iadd hx hb dL_law_970 ?_
  refine k_top (z := 1) (by decide +kernel) ?_
  refine va_sld hx hb hX hbl hbA hS (k_in (by decide +kernel)) dL_law_971 ?_
  refine k_top (z := xs 1) (by rw [cl_1]) ?_
  refine kI.callW (As := [.int (xs 1)]) (rest := [.int v1]) ⟨hx, hb, hml, hown, hg⟩ (c_look l o r f a g hF.2.2.2.2.2.2.2.2.2.2.2.1 hF.2.2.2.2.2.2.2.2.2.2.2.2.1 hF.2.2.2.2.2.2.2.2.2.2.2.2.2.1 hF.2.2.2.2.2.2.2.2.1 hF.2.2.2.2.2.2.2.2.2.1 (xs 1)) (cwV 1 hg (kgV wt8_35 wt8_36 wt8_37 wt1_14 wt8_38) rfl rfl rfl (by decide +kernel) ⟨by decide, by decide⟩) hK hP hD hS hA 0 12 rfl rfl rfl hl.1 rfl (Nat.le_of_ble_eq_true rfl) dL_law_972 ⟨by decide, by decide⟩ (fun v2 u2 H locs hw2 hP hD hS => ?_)
  refine lv_icmp_eq (tgt := 1128) hx hb dL_law_975 (by decide) (fun c1 => ?_) (fun c1 => absurd (hw1.trans ((q_two (xs 1) _ _ _).trans hw2.symm)) c1)
  exact law_tail l C0 hS hl (by decide) (by decide)
set_option maxHeartbeats 4000000 in
set_option maxRecDepth 100000 in
theorem law_nights {p : Program} {e : Env} {s : State} {m : MethodId} {below : List Frame} {meth : Method} {c : Code} (l : Launch) {b : Nat} {xs : Nat → Int32} (C0 : lw_At p s m meth c b 6 xs) {D : va_G} {K : Nat → ClassId} (hK : va_K D vwCl (tysK K) s) (hE : kE K (fun q : Nat => s.heap.size ≤ q) s s.heap) (hT : kT (fun q : Nat => s.heap.size ≤ q) s s.heap) {u : Nat → Nat} {o : Nat} {r : Nat → Nat} {f : Nat → Int32} {a : Nat → Nat → Int32} {g : Nat → Int64} (hF : f 0 = 0 ∧ f 6 = 0 ∧ f 13 = 0 ∧ f 14 = (-1) ∧ f 33 = 0 ∧ f 37 = (-1) ∧ f 45 = (-1) ∧ a 2 22 = 0 ∧ a 2 99 = 30 ∧ a 2 100 = 2 ∧ a 2 101 = 0 ∧ a 2 102 = 0 ∧ a 2 103 = 0 ∧ a 2 104 = 0 ∧ a 2 105 = 0 ∧ a 2 106 = (-1) ∧ a 1 1 = 0 ∧ a 1 2 = 0 ∧ a 1 3 = 0 ∧ a 1 5 = 0 ∧ a 1 6 = 0 ∧ a 4 0 = 0 ∧ a 4 1 = 0) {H : Heap} {locs : List Loc} (hP : va_P D vwCl (xW K u xf0 xa0 xg0 ++ mW K o r f a g) H) (hD : va_D (fun q : Nat => s.heap.size ≤ q) (xW K u xf0 xa0 xg0 ++ mW K o r f a g)) (hS : va_S (fun q : Nat => s.heap.size ≤ q) s.heap H locs) {ls : Array Slot} (hl : lv_has ls 4 [(3, .int 0), (2, .ref o), (1, .ref (u 0)), (0, .ref b)]) : W p l e room_1 s m #[Value.ref b] below meth c H locs 117 26266 (lw_Z below #[Value.ref b] s) (F0 m 980 ls []) := by
  obtain ⟨hx, hb, hr, hml, hown, hts, hX, hbl, hlocks, hgv⟩ := id C0
  have hA : ∀ q : Nat, s.heap.size ≤ q → (fun q : Nat => s.heap.size ≤ q) q := fun _ h => h
  have hbA : ¬ (fun q : Nat => s.heap.size ≤ q) b := Nat.not_le.mpr hbl
  have hg : ∀ w ∈ kG, w.before #[Value.ref b] s = true := fun w h => hts w (kG_in w h)
  have hown : s.vm.findClass RL = some m.cls := hown
  refine lv_aload_n hx hb dL_law_980 rfl (lv_at hl 2 rfl) ?_
  refine lv_aload_n hx hb dL_law_981 rfl (lv_at hl 3 rfl) ?_
  refine lv_iload_n hx hb dL_law_982 rfl (lv_at hl 0 rfl) ?_
  refine lv_iconst (v := 1) hx hb dL_law_983 (by decide) ?_
  refine lv_iadd hx hb dL_law_984 ?_
  refine k_top (z := 1) (by decide +kernel) ?_
  refine va_sld hx hb hX hbl hbA hS (k_in (by decide +kernel)) dL_law_985 ?_
  refine k_top (z := xs 1) (by rw [cl_1]) ?_
  refine lv_aload_n hx hb dL_law_986 rfl (lv_at hl 3 rfl) ?_
  refine lv_iload_n hx hb dL_law_987 rfl (lv_at hl 0 rfl) ?_
  refine lv_iconst (v := 2) hx hb dL_law_988 (by decide) ?_
  refine lv_iadd hx hb dL_law_989 ?_
  refine k_top (z := 2) (by decide +kernel) ?_
  refine va_sld hx hb hX hbl hbA hS (k_in (by decide +kernel)) dL_law_990 ?_
  refine k_top (z := xs 2) (by rw [cl_2]) ?_
  refine kI.callL (As := [.int (xs 1), .int (xs 2)]) (rest := []) ⟨hx, hb, hml, hown, hg⟩ (x_nights l u xf0 xa0 xg0 rfl rfl rfl rfl rfl rfl rfl rfl (fun _ => rfl) (xs 1) (xs 2) ) (cwV 2 hg (kgV wt5_114 wt5_115 wt5_116 wt1_1 wt5_117) rfl rfl rfl (by decide +kernel) ⟨by decide, by decide⟩) hK hP hD hS hA 0 11 rfl rfl rfl hl.1 rfl (Nat.le_of_ble_eq_true rfl) dL_law_991 ⟨by decide, by decide⟩ (fun v1 u1 H locs hw1 hP hD hS => ?_)
  refine lv_aload_n hx hb dL_law_994 rfl (lv_at hl 1 rfl) ?_
  refine lv_aload_n hx hb dL_law_995 rfl (lv_at hl 3 rfl) ?_
  refine lv_iload_n hx hb dL_law_996 rfl (lv_at hl 0 rfl) ?_
  refine lv_iconst (v := 1) hx hb dL_law_997 (by decide) ?_
  refine lv_iadd hx hb dL_law_998 ?_
  refine k_top (z := 1) (by decide +kernel) ?_
  refine va_sld hx hb hX hbl hbA hS (k_in (by decide +kernel)) dL_law_999 ?_
  refine k_top (z := xs 1) (by rw [cl_1]) ?_
  refine lv_aload_n hx hb dL_law_1000 rfl (lv_at hl 3 rfl) ?_
  refine lv_iload_n hx hb dL_law_1001 rfl (lv_at hl 0 rfl) ?_
  refine lv_iconst (v := 2) hx hb dL_law_1002 (by decide) ?_
  refine lv_iadd hx hb dL_law_1003 ?_
  refine k_top (z := 2) (by decide +kernel) ?_
  refine va_sld hx hb hX hbl hbA hS (k_in (by decide +kernel)) dL_law_1004 ?_
  refine k_top (z := xs 2) (by rw [cl_2]) ?_
  refine kI.callW (As := [.int (xs 1), .int (xs 2)]) (rest := [.int v1]) ⟨hx, hb, hml, hown, hg⟩ (c_nights l o r f a g hF.2.2.2.2.2.2.2.2.2.2.2.1 hF.2.2.2.2.2.2.2.2.2.2.2.2.1 hF.2.2.2.2.2.2.2.2.2.2.2.2.2.1 hF.2.2.2.2.2.2.2.2.1 hF.2.2.2.2.2.2.2.2.2.1 (xs 1) (xs 2)) (cwV 2 hg (kgV wt8_67 wt8_68 wt8_69 wt1_14 wt8_70) rfl rfl rfl (by decide +kernel) ⟨by decide, by decide⟩) hK hP hD hS hA 0 12 rfl rfl rfl hl.1 rfl (Nat.le_of_ble_eq_true rfl) dL_law_1005 ⟨by decide, by decide⟩ (fun v2 u2 H locs hw2 hP hD hS => ?_)
  refine lv_icmp_eq (tgt := 1128) hx hb dL_law_1008 (by decide) (fun c1 => ?_) (fun c1 => absurd (hw1.trans ((q_nights (xs 1) (xs 2)).trans hw2.symm)) c1)
  exact law_tail l C0 hS hl (by decide) (by decide)
set_option maxHeartbeats 4000000 in
set_option maxRecDepth 100000 in
theorem law_drawn {p : Program} {e : Env} {s : State} {m : MethodId} {below : List Frame} {meth : Method} {c : Code} (l : Launch) {b : Nat} {xs : Nat → Int32} (C0 : lw_At p s m meth c b 6 xs) {D : va_G} {K : Nat → ClassId} (hK : va_K D vwCl (tysK K) s) (hE : kE K (fun q : Nat => s.heap.size ≤ q) s s.heap) (hT : kT (fun q : Nat => s.heap.size ≤ q) s s.heap) {u : Nat → Nat} {o : Nat} {r : Nat → Nat} {f : Nat → Int32} {a : Nat → Nat → Int32} {g : Nat → Int64} (hF : f 0 = 0 ∧ f 6 = 0 ∧ f 13 = 0 ∧ f 14 = (-1) ∧ f 33 = 0 ∧ f 37 = (-1) ∧ f 45 = (-1) ∧ a 2 22 = 0 ∧ a 2 99 = 30 ∧ a 2 100 = 2 ∧ a 2 101 = 0 ∧ a 2 102 = 0 ∧ a 2 103 = 0 ∧ a 2 104 = 0 ∧ a 2 105 = 0 ∧ a 2 106 = (-1) ∧ a 1 1 = 0 ∧ a 1 2 = 0 ∧ a 1 3 = 0 ∧ a 1 5 = 0 ∧ a 1 6 = 0 ∧ a 4 0 = 0 ∧ a 4 1 = 0) {H : Heap} {locs : List Loc} (hP : va_P D vwCl (xW K u xf0 xa0 xg0 ++ mW K o r f a g) H) (hD : va_D (fun q : Nat => s.heap.size ≤ q) (xW K u xf0 xa0 xg0 ++ mW K o r f a g)) (hS : va_S (fun q : Nat => s.heap.size ≤ q) s.heap H locs) {ls : Array Slot} (hl : lv_has ls 4 [(3, .int 0), (2, .ref o), (1, .ref (u 0)), (0, .ref b)]) : W p l e room_1 s m #[Value.ref b] below meth c H locs 117 26266 (lw_Z below #[Value.ref b] s) (F0 m 1013 ls []) := by
  obtain ⟨hx, hb, hr, hml, hown, hts, hX, hbl, hlocks, hgv⟩ := id C0
  have hA : ∀ q : Nat, s.heap.size ≤ q → (fun q : Nat => s.heap.size ≤ q) q := fun _ h => h
  have hbA : ¬ (fun q : Nat => s.heap.size ≤ q) b := Nat.not_le.mpr hbl
  have hg : ∀ w ∈ kG, w.before #[Value.ref b] s = true := fun w h => hts w (kG_in w h)
  have hown : s.vm.findClass RL = some m.cls := hown
  refine lv_aload_n hx hb dL_law_1013 rfl (lv_at hl 2 rfl) ?_
  refine lv_aload_n hx hb dL_law_1014 rfl (lv_at hl 3 rfl) ?_
  refine lv_iload_n hx hb dL_law_1015 rfl (lv_at hl 0 rfl) ?_
  refine lv_iconst (v := 1) hx hb dL_law_1016 (by decide) ?_
  refine lv_iadd hx hb dL_law_1017 ?_
  refine k_top (z := 1) (by decide +kernel) ?_
  refine va_sld hx hb hX hbl hbA hS (k_in (by decide +kernel)) dL_law_1018 ?_
  refine k_top (z := xs 1) (by rw [cl_1]) ?_
  refine lv_aload_n hx hb dL_law_1019 rfl (lv_at hl 3 rfl) ?_
  refine lv_iload_n hx hb dL_law_1020 rfl (lv_at hl 0 rfl) ?_
  refine lv_iconst (v := 2) hx hb dL_law_1021 (by decide) ?_
  refine lv_iadd hx hb dL_law_1022 ?_
  refine k_top (z := 2) (by decide +kernel) ?_
  refine va_sld hx hb hX hbl hbA hS (k_in (by decide +kernel)) dL_law_1023 ?_
  refine k_top (z := xs 2) (by rw [cl_2]) ?_
  refine kI.callL (As := [.int (xs 1), .int (xs 2)]) (rest := []) ⟨hx, hb, hml, hown, hg⟩ (x_drawn l u xf0 xa0 xg0 rfl rfl (xs 1) (xs 2) ) (cwV 2 hg (kgV wt5_129 wt5_130 wt5_131 wt1_1 wt5_132) rfl rfl rfl (by decide +kernel) ⟨by decide, by decide⟩) hK hP hD hS hA 0 11 rfl rfl rfl hl.1 rfl (Nat.le_of_ble_eq_true rfl) dL_law_1024 ⟨by decide, by decide⟩ (fun v1 u1 H locs hw1 hP hD hS => ?_)
  refine lv_aload_n hx hb dL_law_1027 rfl (lv_at hl 1 rfl) ?_
  refine lv_aload_n hx hb dL_law_1028 rfl (lv_at hl 3 rfl) ?_
  refine lv_iload_n hx hb dL_law_1029 rfl (lv_at hl 0 rfl) ?_
  refine lv_iconst (v := 1) hx hb dL_law_1030 (by decide) ?_
  refine lv_iadd hx hb dL_law_1031 ?_
  refine k_top (z := 1) (by decide +kernel) ?_
  refine va_sld hx hb hX hbl hbA hS (k_in (by decide +kernel)) dL_law_1032 ?_
  refine k_top (z := xs 1) (by rw [cl_1]) ?_
  refine lv_aload_n hx hb dL_law_1033 rfl (lv_at hl 3 rfl) ?_
  refine lv_iload_n hx hb dL_law_1034 rfl (lv_at hl 0 rfl) ?_
  refine lv_iconst (v := 2) hx hb dL_law_1035 (by decide) ?_
  refine lv_iadd hx hb dL_law_1036 ?_
  refine k_top (z := 2) (by decide +kernel) ?_
  refine va_sld hx hb hX hbl hbA hS (k_in (by decide +kernel)) dL_law_1037 ?_
  refine k_top (z := xs 2) (by rw [cl_2]) ?_
  refine kI.callW (As := [.int (xs 1), .int (xs 2)]) (rest := [.int v1]) ⟨hx, hb, hml, hown, hg⟩ (c_drawn l o r f a g hF.2.2.2.2.2.2.1 (xs 1) (xs 2)) (cwV 2 hg (kgV wt8_78 wt8_79 wt8_80 wt1_14 wt8_81) rfl rfl rfl (by decide +kernel) ⟨by decide, by decide⟩) hK hP hD hS hA 0 12 rfl rfl rfl hl.1 rfl (Nat.le_of_ble_eq_true rfl) dL_law_1038 ⟨by decide, by decide⟩ (fun v2 u2 H locs hw2 hP hD hS => ?_)
  refine lv_icmp_eq (tgt := 1128) hx hb dL_law_1041 (by decide) (fun c1 => ?_) (fun c1 => absurd (hw1.trans hw2.symm) c1)
  exact law_tail l C0 hS hl (by decide) (by decide)
set_option maxHeartbeats 4000000 in
set_option maxRecDepth 100000 in
theorem law_back {p : Program} {e : Env} {s : State} {m : MethodId} {below : List Frame} {meth : Method} {c : Code} (l : Launch) {b : Nat} {xs : Nat → Int32} (C0 : lw_At p s m meth c b 6 xs) {D : va_G} {K : Nat → ClassId} (hK : va_K D vwCl (tysK K) s) (hE : kE K (fun q : Nat => s.heap.size ≤ q) s s.heap) (hT : kT (fun q : Nat => s.heap.size ≤ q) s s.heap) {u : Nat → Nat} {o : Nat} {r : Nat → Nat} {f : Nat → Int32} {a : Nat → Nat → Int32} {g : Nat → Int64} (hF : f 0 = 0 ∧ f 6 = 0 ∧ f 13 = 0 ∧ f 14 = (-1) ∧ f 33 = 0 ∧ f 37 = (-1) ∧ f 45 = (-1) ∧ a 2 22 = 0 ∧ a 2 99 = 30 ∧ a 2 100 = 2 ∧ a 2 101 = 0 ∧ a 2 102 = 0 ∧ a 2 103 = 0 ∧ a 2 104 = 0 ∧ a 2 105 = 0 ∧ a 2 106 = (-1) ∧ a 1 1 = 0 ∧ a 1 2 = 0 ∧ a 1 3 = 0 ∧ a 1 5 = 0 ∧ a 1 6 = 0 ∧ a 4 0 = 0 ∧ a 4 1 = 0) {H : Heap} {locs : List Loc} (hP : va_P D vwCl (xW K u xf0 xa0 xg0 ++ mW K o r f a g) H) (hD : va_D (fun q : Nat => s.heap.size ≤ q) (xW K u xf0 xa0 xg0 ++ mW K o r f a g)) (hS : va_S (fun q : Nat => s.heap.size ≤ q) s.heap H locs) {ls : Array Slot} (hl : lv_has ls 4 [(3, .int 0), (2, .ref o), (1, .ref (u 0)), (0, .ref b)]) : W p l e room_1 s m #[Value.ref b] below meth c H locs 117 26266 (lw_Z below #[Value.ref b] s) (F0 m 1069 ls []) := by
  obtain ⟨hx, hb, hr, hml, hown, hts, hX, hbl, hlocks, hgv⟩ := id C0
  have hA : ∀ q : Nat, s.heap.size ≤ q → (fun q : Nat => s.heap.size ≤ q) q := fun _ h => h
  have hbA : ¬ (fun q : Nat => s.heap.size ≤ q) b := Nat.not_le.mpr hbl
  have hg : ∀ w ∈ kG, w.before #[Value.ref b] s = true := fun w h => hts w (kG_in w h)
  have hown : s.vm.findClass RL = some m.cls := hown
  refine lv_aload_n hx hb dL_law_1069 rfl (lv_at hl 2 rfl) ?_
  refine lv_aload_n hx hb dL_law_1070 rfl (lv_at hl 3 rfl) ?_
  refine lv_iload_n hx hb dL_law_1071 rfl (lv_at hl 0 rfl) ?_
  refine lv_iconst (v := 1) hx hb dL_law_1072 (by decide) ?_
  refine lv_iadd hx hb dL_law_1073 ?_
  refine k_top (z := 1) (by decide +kernel) ?_
  refine va_sld hx hb hX hbl hbA hS (k_in (by decide +kernel)) dL_law_1074 ?_
  refine k_top (z := xs 1) (by rw [cl_1]) ?_
  refine kI.callL (As := [.int (xs 1)]) (rest := []) ⟨hx, hb, hml, hown, hg⟩ (x_back l u xf0 xa0 xg0 (fun _ => rfl) (xs 1) ) (cwV 1 hg (kgV wt5_142 wt5_143 wt5_144 wt1_1 wt5_145) rfl rfl rfl (by decide +kernel) ⟨by decide, by decide⟩) hK hP hD hS hA 0 11 rfl rfl rfl hl.1 rfl (Nat.le_of_ble_eq_true rfl) dL_law_1075 ⟨by decide, by decide⟩ (fun v1 u1 H locs hw1 hP hD hS => ?_)
  refine lv_aload_n hx hb dL_law_1078 rfl (lv_at hl 1 rfl) ?_
  refine lv_aload_n hx hb dL_law_1079 rfl (lv_at hl 3 rfl) ?_
  refine lv_iload_n hx hb dL_law_1080 rfl (lv_at hl 0 rfl) ?_
  refine lv_iconst (v := 1) hx hb dL_law_1081 (by decide) ?_
  refine lv_iadd hx hb dL_law_1082 ?_
  refine k_top (z := 1) (by decide +kernel) ?_
  refine va_sld hx hb hX hbl hbA hS (k_in (by decide +kernel)) dL_law_1083 ?_
  refine k_top (z := xs 1) (by rw [cl_1]) ?_
  refine kI.callW (As := [.int (xs 1)]) (rest := [.int v1]) ⟨hx, hb, hml, hown, hg⟩ (c_back l o r f a g hF.2.2.2.2.2.2.2.2.2.2.2.2.2.2.2.2.2.2.2.2.2.1 hF.2.2.2.2.2.2.2.2.2.2.2.2.2.2.2.2.2.2.2.2.2.2 (xs 1)) (cwV 1 hg (kgV wt6_80 wt6_81 wt6_82 wt1_14 wt6_83) rfl rfl rfl (by decide +kernel) ⟨by decide, by decide⟩) hK hP hD hS hA 0 12 rfl rfl rfl hl.1 rfl (Nat.le_of_ble_eq_true rfl) dL_law_1084 ⟨by decide, by decide⟩ (fun v2 u2 H locs hw2 hP hD hS => ?_)
  refine lv_icmp_eq (tgt := 1128) hx hb dL_law_1087 (by decide) (fun c1 => ?_) (fun c1 => absurd (hw1.trans ((q_two' (xs 1) _ _).trans hw2.symm)) c1)
  exact law_tail l C0 hS hl (by decide) (by decide)
set_option maxHeartbeats 4000000 in
set_option maxRecDepth 100000 in
theorem law_count {p : Program} {e : Env} {s : State} {m : MethodId} {below : List Frame} {meth : Method} {c : Code} (l : Launch) {b : Nat} {xs : Nat → Int32} (C0 : lw_At p s m meth c b 6 xs) {D : va_G} {K : Nat → ClassId} (hK : va_K D vwCl (tysK K) s) (hE : kE K (fun q : Nat => s.heap.size ≤ q) s s.heap) (hT : kT (fun q : Nat => s.heap.size ≤ q) s s.heap) {u : Nat → Nat} {o : Nat} {r : Nat → Nat} {f : Nat → Int32} {a : Nat → Nat → Int32} {g : Nat → Int64} (hF : f 0 = 0 ∧ f 6 = 0 ∧ f 13 = 0 ∧ f 14 = (-1) ∧ f 33 = 0 ∧ f 37 = (-1) ∧ f 45 = (-1) ∧ a 2 22 = 0 ∧ a 2 99 = 30 ∧ a 2 100 = 2 ∧ a 2 101 = 0 ∧ a 2 102 = 0 ∧ a 2 103 = 0 ∧ a 2 104 = 0 ∧ a 2 105 = 0 ∧ a 2 106 = (-1) ∧ a 1 1 = 0 ∧ a 1 2 = 0 ∧ a 1 3 = 0 ∧ a 1 5 = 0 ∧ a 1 6 = 0 ∧ a 4 0 = 0 ∧ a 4 1 = 0) {H : Heap} {locs : List Loc} (hP : va_P D vwCl (xW K u xf0 xa0 xg0 ++ mW K o r f a g) H) (hD : va_D (fun q : Nat => s.heap.size ≤ q) (xW K u xf0 xa0 xg0 ++ mW K o r f a g)) (hS : va_S (fun q : Nat => s.heap.size ≤ q) s.heap H locs) {ls : Array Slot} (hl : lv_has ls 4 [(3, .int 0), (2, .ref o), (1, .ref (u 0)), (0, .ref b)]) : W p l e room_1 s m #[Value.ref b] below meth c H locs 117 26266 (lw_Z below #[Value.ref b] s) (F0 m 1092 ls []) := by
  obtain ⟨hx, hb, hr, hml, hown, hts, hX, hbl, hlocks, hgv⟩ := id C0
  have hA : ∀ q : Nat, s.heap.size ≤ q → (fun q : Nat => s.heap.size ≤ q) q := fun _ h => h
  have hbA : ¬ (fun q : Nat => s.heap.size ≤ q) b := Nat.not_le.mpr hbl
  have hg : ∀ w ∈ kG, w.before #[Value.ref b] s = true := fun w h => hts w (kG_in w h)
  have hown : s.vm.findClass RL = some m.cls := hown
  refine lv_aload_n hx hb dL_law_1092 rfl (lv_at hl 2 rfl) ?_
  refine lv_aload_n hx hb dL_law_1093 rfl (lv_at hl 3 rfl) ?_
  refine lv_iload_n hx hb dL_law_1094 rfl (lv_at hl 0 rfl) ?_
  refine lv_iconst (v := 1) hx hb dL_law_1095 (by decide) ?_
  refine lv_iadd hx hb dL_law_1096 ?_
  refine k_top (z := 1) (by decide +kernel) ?_
  refine va_sld hx hb hX hbl hbA hS (k_in (by decide +kernel)) dL_law_1097 ?_
  refine k_top (z := xs 1) (by rw [cl_1]) ?_
  refine kI.callL (As := [.int (xs 1)]) (rest := []) ⟨hx, hb, hml, hown, hg⟩ (x_count l u xf0 xa0 xg0 rfl rfl rfl rfl rfl rfl rfl rfl rfl rfl rfl rfl rfl rfl rfl rfl (xs 1) ) (cwV 1 hg (kgV wt5_146 wt5_147 wt5_148 wt1_1 wt5_149) rfl rfl rfl (by decide +kernel) ⟨by decide, by decide⟩) hK hP hD hS hA 0 11 rfl rfl rfl hl.1 rfl (Nat.le_of_ble_eq_true rfl) dL_law_1098 ⟨by decide, by decide⟩ (fun v1 u1 H locs hw1 hP hD hS => ?_)
  refine lv_aload_n hx hb dL_law_1101 rfl (lv_at hl 1 rfl) ?_
  refine lv_aload_n hx hb dL_law_1102 rfl (lv_at hl 3 rfl) ?_
  refine lv_iload_n hx hb dL_law_1103 rfl (lv_at hl 0 rfl) ?_
  refine lv_iconst (v := 1) hx hb dL_law_1104 (by decide) ?_
  refine lv_iadd hx hb dL_law_1105 ?_
  refine k_top (z := 1) (by decide +kernel) ?_
  refine va_sld hx hb hX hbl hbA hS (k_in (by decide +kernel)) dL_law_1106 ?_
  refine k_top (z := xs 1) (by rw [cl_1]) ?_
  refine kI.callW (As := [.int (xs 1)]) (rest := [.int v1]) ⟨hx, hb, hml, hown, hg⟩ (c_count l o r f a g hF.2.2.2.2.2.2.2.2.2.2.2.1 hF.2.2.2.2.2.2.2.2.2.2.2.2.1 hF.2.2.2.2.2.2.2.2.2.2.2.2.2.1 hF.2.2.2.2.2.2.2.2.2.2.2.2.2.2.1 hF.2.2.2.2.1 hF.2.2.1 hF.2.2.2.2.2.2.2.2.2.2.2.2.2.2.2.2.1 hF.2.2.2.2.2.2.2.2.2.2.2.2.2.2.2.2.2.1 hF.2.2.2.2.2.2.2.2.2.2.2.2.2.2.2.2.2.2.1 hF.2.2.2.2.2.2.2.2.2.2.2.2.2.2.2.2.2.2.2.1 hF.2.2.2.2.2.2.2.2.2.2.2.2.2.2.2.2.2.2.2.2.1 hF.2.2.2.2.2.2.2.2.2.2.2.2.2.2.2.1 hF.2.2.2.2.2.2.2.1 hF.2.2.2.2.2.2.2.2.1 hF.2.2.2.2.2.2.2.2.2.1 hF.2.2.2.2.2.2.2.2.2.2.1 (xs 1)) (cwV 1 hg (kgV wt8_82 wt8_83 wt8_84 wt1_14 wt8_85) rfl rfl rfl (by decide +kernel) ⟨by decide, by decide⟩) hK hP hD hS hA 0 12 rfl rfl rfl hl.1 rfl (Nat.le_of_ble_eq_true rfl) dL_law_1107 ⟨by decide, by decide⟩ (fun v2 u2 H locs hw2 hP hD hS => ?_)
  refine lv_icmp_eq (tgt := 1128) hx hb dL_law_1110 (by decide) (fun c1 => ?_) (fun c1 => absurd (hw1.trans hw2.symm) c1)
  exact law_tail l C0 hS hl (by decide) (by decide)
set_option maxHeartbeats 4000000 in
set_option maxRecDepth 100000 in
theorem law_status {p : Program} {e : Env} {s : State} {m : MethodId} {below : List Frame} {meth : Method} {c : Code} (l : Launch) {b : Nat} {xs : Nat → Int32} (C0 : lw_At p s m meth c b 6 xs) {D : va_G} {K : Nat → ClassId} (hK : va_K D vwCl (tysK K) s) (hE : kE K (fun q : Nat => s.heap.size ≤ q) s s.heap) (hT : kT (fun q : Nat => s.heap.size ≤ q) s s.heap) {u : Nat → Nat} {o : Nat} {r : Nat → Nat} {f : Nat → Int32} {a : Nat → Nat → Int32} {g : Nat → Int64} (hF : f 0 = 0 ∧ f 6 = 0 ∧ f 13 = 0 ∧ f 14 = (-1) ∧ f 33 = 0 ∧ f 37 = (-1) ∧ f 45 = (-1) ∧ a 2 22 = 0 ∧ a 2 99 = 30 ∧ a 2 100 = 2 ∧ a 2 101 = 0 ∧ a 2 102 = 0 ∧ a 2 103 = 0 ∧ a 2 104 = 0 ∧ a 2 105 = 0 ∧ a 2 106 = (-1) ∧ a 1 1 = 0 ∧ a 1 2 = 0 ∧ a 1 3 = 0 ∧ a 1 5 = 0 ∧ a 1 6 = 0 ∧ a 4 0 = 0 ∧ a 4 1 = 0) {H : Heap} {locs : List Loc} (hP : va_P D vwCl (xW K u xf0 xa0 xg0 ++ mW K o r f a g) H) (hD : va_D (fun q : Nat => s.heap.size ≤ q) (xW K u xf0 xa0 xg0 ++ mW K o r f a g)) (hS : va_S (fun q : Nat => s.heap.size ≤ q) s.heap H locs) {ls : Array Slot} (hl : lv_has ls 4 [(3, .int 0), (2, .ref o), (1, .ref (u 0)), (0, .ref b)]) : W p l e room_1 s m #[Value.ref b] below meth c H locs 117 26266 (lw_Z below #[Value.ref b] s) (F0 m 1115 ls []) := by
  obtain ⟨hx, hb, hr, hml, hown, hts, hX, hbl, hlocks, hgv⟩ := id C0
  have hA : ∀ q : Nat, s.heap.size ≤ q → (fun q : Nat => s.heap.size ≤ q) q := fun _ h => h
  have hbA : ¬ (fun q : Nat => s.heap.size ≤ q) b := Nat.not_le.mpr hbl
  have hg : ∀ w ∈ kG, w.before #[Value.ref b] s = true := fun w h => hts w (kG_in w h)
  have hown : s.vm.findClass RL = some m.cls := hown
  refine lv_aload_n hx hb dL_law_1115 rfl (lv_at hl 2 rfl) ?_
  refine kI.callL (As := []) (rest := []) ⟨hx, hb, hml, hown, hg⟩ (x_status l u xf0 xa0 xg0 rfl  ) (cwV 0 hg (kgV wt5_150 wt5_151 wt5_152 wt1_1 wt5_153) rfl rfl rfl (by decide +kernel) ⟨by decide, by decide⟩) hK hP hD hS hA 0 11 rfl rfl rfl hl.1 rfl (Nat.le_of_ble_eq_true rfl) dL_law_1116 ⟨by decide, by decide⟩ (fun v1 u1 H locs hw1 hP hD hS => ?_)
  refine lv_aload_n hx hb dL_law_1119 rfl (lv_at hl 1 rfl) ?_
  refine kI.callW (As := []) (rest := [.int v1]) ⟨hx, hb, hml, hown, hg⟩ (c_status l o r f a g hF.1 ) (cwV 0 hg (kgV wt8_86 wt8_87 wt8_88 wt1_14 wt8_89) rfl rfl rfl (by decide +kernel) ⟨by decide, by decide⟩) hK hP hD hS hA 0 12 rfl rfl rfl hl.1 rfl (Nat.le_of_ble_eq_true rfl) dL_law_1120 ⟨by decide, by decide⟩ (fun v2 u2 H locs hw2 hP hD hS => ?_)
  refine lv_icmp_eq (tgt := 1128) hx hb dL_law_1123 (by decide) (fun c1 => ?_) (fun c1 => absurd (hw1.trans hw2.symm) c1)
  exact law_tail l C0 hS hl (by decide) (by decide)
