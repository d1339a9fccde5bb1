set_option maxHeartbeats 4000000 in
set_option maxRecDepth 100000 in
theorem law_tail {p : Program} {e : Env} {s : State} {m : MethodId} {below : List Frame} {meth : Method} {c : Code} (l : Launch) {b : Nat} {xs : Nat → Int32} (C0 : lw_At p s m meth c b 6 xs) {x1 x2 : Nat} {H : Heap} {locs : List Loc} (hS : va_S (fun q : Nat => s.heap.size ≤ q) s.heap H locs) {ls : Array Slot} (hl : lv_has ls 4 [(3, .int 0), (2, .ref x2), (1, .ref x1), (0, .ref b)]) {cs ss : Nat} (hcs : cs ≤ 600000) (hss : ss ≤ 7302250) : W p l e room_1 s m #[Value.ref b] below meth c H locs cs ss (lw_Z below #[Value.ref b] s) (F0 m 1128 ls []) := by
  obtain ⟨hx, hb, hr, hml, hown, hts, hX, hbl, hlocks, hgv⟩ := id C0
  have hA : ∀ q : Nat, s.heap.size ≤ q → (fun q : Nat => s.heap.size ≤ q) q := fun _ h => h
  have hbA : ¬ (fun q : Nat => s.heap.size ≤ q) b := Nat.not_le.mpr hbl
  have hg : ∀ w ∈ kG, w.before #[Value.ref b] s = true := fun w h => hts w (kG_in w h)
  have hown : s.vm.findClass RL = some m.cls := hown
  refine lv_iinc (v := 6) (lv' := [(3, .int 6), (2, .ref x2), (1, .ref x1), (0, .ref b)]) hx hb dL_law_1128 hl (k := 0) rfl (by decide +kernel) (by decide) rfl (fun ls hl => ?_)
  refine lv_goto (tgt := 18) hx hb dL_law_1131 (by decide) ?_
  refine lv_iload_n hx hb dL_law_18 rfl (lv_at hl 0 rfl) ?_
  refine lv_aload_n hx hb dL_law_19 rfl (lv_at hl 3 rfl) ?_
  refine va_slen hx hb hX hbl hbA hS dL_law_20 ?_
  refine k_top (z := 6) (by decide +kernel) ?_
  refine lv_bipush (v := 6) hx hb dL_law_21 (by decide) ?_
  refine lv_isub hx hb dL_law_23 ?_
  refine k_top (z := 0) (by decide +kernel) ?_
  refine lv_icmp_gt (tgt := 1134) hx hb dL_law_24 (by decide) (fun c1 => ?_) (fun c1 => absurd (by decide +kernel) c1)
  refine lv_iconst (v := 1) hx hb dL_law_1134 (by decide) ?_
  refine va_forget (fun q hq => hS.2.2 q hq) ?_
  refine W.widen (k := 600000) (n := 7302250) hcs hss ?_
  exact lw_ret hx hb hr hlocks dL_law_1135
