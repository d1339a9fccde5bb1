set_option maxHeartbeats 4000000 in
set_option maxRecDepth 100000 in
theorem law_part {p : Program} {e : Env} {s : State} {m : MethodId} {below : List Frame} {meth : Method} {c : Code} (l : Launch) {b : Nat} {xs : Nat → Int32} (C0 : lw_At p s m meth c b 6 xs) {D : va_G} {K : Nat → ClassId} (hK : va_K D vwCl (tysK K) s) (hE : kE K (fun q : Nat => s.heap.size ≤ q) s s.heap) (hT : kT (fun q : Nat => s.heap.size ≤ q) s s.heap) {u : Nat → Nat} {o : Nat} {r : Nat → Nat} {f : Nat → Int32} {a : Nat → Nat → Int32} {g : Nat → Int64} (hF : f 0 = 0 ∧ f 6 = 0 ∧ f 13 = 0 ∧ f 14 = (-1) ∧ f 33 = 0 ∧ f 37 = (-1) ∧ f 45 = (-1) ∧ a 2 22 = 0 ∧ a 2 99 = 30 ∧ a 2 100 = 2 ∧ a 2 101 = 0 ∧ a 2 102 = 0 ∧ a 2 103 = 0 ∧ a 2 104 = 0 ∧ a 2 105 = 0 ∧ a 2 106 = (-1) ∧ a 1 1 = 0 ∧ a 1 2 = 0 ∧ a 1 3 = 0 ∧ a 1 5 = 0 ∧ a 1 6 = 0 ∧ a 4 0 = 0 ∧ a 4 1 = 0) {H : Heap} {locs : List Loc} (hP : va_P D vwCl (xW K u xf0 xa0 xg0 ++ mW K o r f a g) H) (hD : va_D (fun q : Nat => s.heap.size ≤ q) (xW K u xf0 xa0 xg0 ++ mW K o r f a g)) (hS : va_S (fun q : Nat => s.heap.size ≤ q) s.heap H locs) {ls : Array Slot} (hl : lv_has ls 4 [(3, .int 0), (2, .ref o), (1, .ref (u 0)), (0, .ref b)]) : W p l e room_1 s m #[Value.ref b] below meth c H locs 117 26266 (lw_Z below #[Value.ref b] s) (F0 m 196 ls []) := by
  obtain ⟨hx, hb, hr, hml, hown, hts, hX, hbl, hlocks, hgv⟩ := id C0
  have hA : ∀ q : Nat, s.heap.size ≤ q → (fun q : Nat => s.heap.size ≤ q) q := fun _ h => h
  have hbA : ¬ (fun q : Nat => s.heap.size ≤ q) b := Nat.not_le.mpr hbl
  have hg : ∀ w ∈ kG, w.before #[Value.ref b] s = true := fun w h => hts w (kG_in w h)
  have hown : s.vm.findClass RL = some m.cls := hown
  by_cases hok : xPartOk (xs 1) (xs 2) (xs 3) (xs 4)
  · refine lv_aload_n hx hb dL_law_196 rfl (lv_at hl 2 rfl) ?_
    refine lv_aload_n hx hb dL_law_197 rfl (lv_at hl 3 rfl) ?_
    refine lv_iload_n hx hb dL_law_198 rfl (lv_at hl 0 rfl) ?_
    refine lv_iconst (v := 1) hx hb dL_law_199 (by decide) ?_
    refine lv_iadd hx hb dL_law_200 ?_
    refine k_top (z := 1) (by decide +kernel) ?_
    refine va_sld hx hb hX hbl hbA hS (k_in (by decide +kernel)) dL_law_201 ?_
    refine k_top (z := xs 1) (by rw [cl_1]) ?_
    refine lv_aload_n hx hb dL_law_202 rfl (lv_at hl 3 rfl) ?_
    refine lv_iload_n hx hb dL_law_203 rfl (lv_at hl 0 rfl) ?_
    refine lv_iconst (v := 2) hx hb dL_law_204 (by decide) ?_
    refine lv_iadd hx hb dL_law_205 ?_
    refine k_top (z := 2) (by decide +kernel) ?_
    refine va_sld hx hb hX hbl hbA hS (k_in (by decide +kernel)) dL_law_206 ?_
    refine k_top (z := xs 2) (by rw [cl_2]) ?_
    refine lv_aload_n hx hb dL_law_207 rfl (lv_at hl 3 rfl) ?_
    refine lv_iload_n hx hb dL_law_208 rfl (lv_at hl 0 rfl) ?_
    refine lv_iconst (v := 3) hx hb dL_law_209 (by decide) ?_
    refine lv_iadd hx hb dL_law_210 ?_
    refine k_top (z := 3) (by decide +kernel) ?_
    refine va_sld hx hb hX hbl hbA hS (k_in (by decide +kernel)) dL_law_211 ?_
    refine k_top (z := xs 3) (by rw [cl_3]) ?_
    refine lv_aload_n hx hb dL_law_212 rfl (lv_at hl 3 rfl) ?_
    refine lv_iload_n hx hb dL_law_213 rfl (lv_at hl 0 rfl) ?_
    refine lv_iconst (v := 4) hx hb dL_law_214 (by decide) ?_
    refine lv_iadd hx hb dL_law_215 ?_
    refine k_top (z := 4) (by decide +kernel) ?_
    refine va_sld hx hb hX hbl hbA hS (k_in (by decide +kernel)) dL_law_216 ?_
    refine k_top (z := xs 4) (by rw [cl_4]) ?_
    refine kI.callL (As := [.int (xs 1), .int (xs 2), .int (xs 3), .int (xs 4)]) (rest := []) ⟨hx, hb, hml, hown, hg⟩ (x_partOk l u xf0 xa0 xg0 rfl (xs 1) (xs 2) (xs 3) (xs 4) hok) (cwV 4 hg (kgV wt2_239 wt3_0 wt3_1 wt1_1 wt3_2) rfl rfl rfl (by decide +kernel) ⟨by decide, by decide⟩) hK hP hD hS hA 0 11 rfl rfl rfl hl.1 rfl (Nat.le_of_ble_eq_true rfl) dL_law_217 ⟨by decide, by decide⟩ (fun v1 u1 H locs hw1 hP hD hS => ?_)
    refine lv_aload_n hx hb dL_law_220 rfl (lv_at hl 1 rfl) ?_
    refine lv_aload_n hx hb dL_law_221 rfl (lv_at hl 3 rfl) ?_
    refine lv_iload_n hx hb dL_law_222 rfl (lv_at hl 0 rfl) ?_
    refine lv_iconst (v := 1) hx hb dL_law_223 (by decide) ?_
    refine lv_iadd hx hb dL_law_224 ?_
    refine k_top (z := 1) (by decide +kernel) ?_
    refine va_sld hx hb hX hbl hbA hS (k_in (by decide +kernel)) dL_law_225 ?_
    refine k_top (z := xs 1) (by rw [cl_1]) ?_
    refine lv_aload_n hx hb dL_law_226 rfl (lv_at hl 3 rfl) ?_
    refine lv_iload_n hx hb dL_law_227 rfl (lv_at hl 0 rfl) ?_
    refine lv_iconst (v := 2) hx hb dL_law_228 (by decide) ?_
    refine lv_iadd hx hb dL_law_229 ?_
    refine k_top (z := 2) (by decide +kernel) ?_
    refine va_sld hx hb hX hbl hbA hS (k_in (by decide +kernel)) dL_law_230 ?_
    refine k_top (z := xs 2) (by rw [cl_2]) ?_
    refine lv_aload_n hx hb dL_law_231 rfl (lv_at hl 3 rfl) ?_
    refine lv_iload_n hx hb dL_law_232 rfl (lv_at hl 0 rfl) ?_
    refine lv_iconst (v := 3) hx hb dL_law_233 (by decide) ?_
    refine lv_iadd hx hb dL_law_234 ?_
    refine k_top (z := 3) (by decide +kernel) ?_
    refine va_sld hx hb hX hbl hbA hS (k_in (by decide +kernel)) dL_law_235 ?_
    refine k_top (z := xs 3) (by rw [cl_3]) ?_
    refine lv_aload_n hx hb dL_law_236 rfl (lv_at hl 3 rfl) ?_
    refine lv_iload_n hx hb dL_law_237 rfl (lv_at hl 0 rfl) ?_
    refine lv_iconst (v := 4) hx hb dL_law_238 (by decide) ?_
    refine lv_iadd hx hb dL_law_239 ?_
    refine k_top (z := 4) (by decide +kernel) ?_
    refine va_sld hx hb hX hbl hbA hS (k_in (by decide +kernel)) dL_law_240 ?_
    refine k_top (z := xs 4) (by rw [cl_4]) ?_
    refine kI.callW (As := [.int (xs 1), .int (xs 2), .int (xs 3), .int (xs 4)]) (rest := [.int v1]) ⟨hx, hb, hml, hown, hg⟩ (c_part l o r f a g hF.2.2.2.2.2.2.2.2.2.2.2.1 (xs 1) (xs 2) (xs 3) (xs 4)) (cwV 4 hg (kgV wt6_88 wt6_89 wt6_90 wt1_14 wt6_91) rfl rfl rfl (by decide +kernel) ⟨by decide, by decide⟩) hK hP hD hS hA 0 12 rfl rfl rfl hl.1 rfl (Nat.le_of_ble_eq_true rfl) dL_law_241 ⟨by decide, by decide⟩ (fun v2 u2 H locs hw2 hP hD hS => ?_)
    refine lv_icmp_eq (tgt := 1128) hx hb dL_law_244 (by decide) (fun c1 => ?_) (fun c1 => absurd (hw1.trans ((q_partOk hok).symm.trans hw2.symm)) c1)
    exact law_tail l C0 hS hl (by decide) (by decide)
  · refine lv_aload_n hx hb dL_law_196 rfl (lv_at hl 2 rfl) ?_
    refine lv_aload_n hx hb dL_law_197 rfl (lv_at hl 3 rfl) ?_
    refine lv_iload_n hx hb dL_law_198 rfl (lv_at hl 0 rfl) ?_
    refine lv_iconst (v := 1) hx hb dL_law_199 (by decide) ?_
    refine lv_iadd hx hb dL_law_200 ?_
    refine k_top (z := 1) (by decide +kernel) ?_
    refine va_sld hx hb hX hbl hbA hS (k_in (by decide +kernel)) dL_law_201 ?_
    refine k_top (z := xs 1) (by rw [cl_1]) ?_
    refine lv_aload_n hx hb dL_law_202 rfl (lv_at hl 3 rfl) ?_
    refine lv_iload_n hx hb dL_law_203 rfl (lv_at hl 0 rfl) ?_
    refine lv_iconst (v := 2) hx hb dL_law_204 (by decide) ?_
    refine lv_iadd hx hb dL_law_205 ?_
    refine k_top (z := 2) (by decide +kernel) ?_
    refine va_sld hx hb hX hbl hbA hS (k_in (by decide +kernel)) dL_law_206 ?_
    refine k_top (z := xs 2) (by rw [cl_2]) ?_
    refine lv_aload_n hx hb dL_law_207 rfl (lv_at hl 3 rfl) ?_
    refine lv_iload_n hx hb dL_law_208 rfl (lv_at hl 0 rfl) ?_
    refine lv_iconst (v := 3) hx hb dL_law_209 (by decide) ?_
    refine lv_iadd hx hb dL_law_210 ?_
    refine k_top (z := 3) (by decide +kernel) ?_
    refine va_sld hx hb hX hbl hbA hS (k_in (by decide +kernel)) dL_law_211 ?_
    refine k_top (z := xs 3) (by rw [cl_3]) ?_
    refine lv_aload_n hx hb dL_law_212 rfl (lv_at hl 3 rfl) ?_
    refine lv_iload_n hx hb dL_law_213 rfl (lv_at hl 0 rfl) ?_
    refine lv_iconst (v := 4) hx hb dL_law_214 (by decide) ?_
    refine lv_iadd hx hb dL_law_215 ?_
    refine k_top (z := 4) (by decide +kernel) ?_
    refine va_sld hx hb hX hbl hbA hS (k_in (by decide +kernel)) dL_law_216 ?_
    refine k_top (z := xs 4) (by rw [cl_4]) ?_
    refine kI.callL (As := [.int (xs 1), .int (xs 2), .int (xs 3), .int (xs 4)]) (rest := []) ⟨hx, hb, hml, hown, hg⟩ (x_partBad l u xf0 xa0 xg0 rfl (xs 1) (xs 2) (xs 3) (xs 4) hok) (cwV 4 hg (kgV wt2_239 wt3_0 wt3_1 wt1_1 wt3_2) rfl rfl rfl (by decide +kernel) ⟨by decide, by decide⟩) hK hP hD hS hA 0 11 rfl rfl rfl hl.1 rfl (Nat.le_of_ble_eq_true rfl) dL_law_217 ⟨by decide, by decide⟩ (fun v1 u1 H locs hw1 hP hD hS => ?_)
    refine lv_aload_n hx hb dL_law_220 rfl (lv_at hl 1 rfl) ?_
    refine lv_aload_n hx hb dL_law_221 rfl (lv_at hl 3 rfl) ?_
    refine lv_iload_n hx hb dL_law_222 rfl (lv_at hl 0 rfl) ?_
    refine lv_iconst (v := 1) hx hb dL_law_223 (by decide) ?_
    refine lv_iadd hx hb dL_law_224 ?_
    refine k_top (z := 1) (by decide +kernel) ?_
    refine va_sld hx hb hX hbl hbA hS (k_in (by decide +kernel)) dL_law_225 ?_
    refine k_top (z := xs 1) (by rw [cl_1]) ?_
    refine lv_aload_n hx hb dL_law_226 rfl (lv_at hl 3 rfl) ?_
    refine lv_iload_n hx hb dL_law_227 rfl (lv_at hl 0 rfl) ?_
    refine lv_iconst (v := 2) hx hb dL_law_228 (by decide) ?_
    refine lv_iadd hx hb dL_law_229 ?_
    refine k_top (z := 2) (by decide +kernel) ?_
    refine va_sld hx hb hX hbl hbA hS (k_in (by decide +kernel)) dL_law_230 ?_
    refine k_top (z := xs 2) (by rw [cl_2]) ?_
    refine lv_aload_n hx hb dL_law_231 rfl (lv_at hl 3 rfl) ?_
    refine lv_iload_n hx hb dL_law_232 rfl (lv_at hl 0 rfl) ?_
    refine lv_iconst (v := 3) hx hb dL_law_233 (by decide) ?_
    refine lv_iadd hx hb dL_law_234 ?_
    refine k_top (z := 3) (by decide +kernel) ?_
    refine va_sld hx hb hX hbl hbA hS (k_in (by decide +kernel)) dL_law_235 ?_
    refine k_top (z := xs 3) (by rw [cl_3]) ?_
    refine lv_aload_n hx hb dL_law_236 rfl (lv_at hl 3 rfl) ?_
    refine lv_iload_n hx hb dL_law_237 rfl (lv_at hl 0 rfl) ?_
    refine lv_iconst (v := 4) hx hb dL_law_238 (by decide) ?_
    refine lv_iadd hx hb dL_law_239 ?_
    refine k_top (z := 4) (by decide +kernel) ?_
    refine va_sld hx hb hX hbl hbA hS (k_in (by decide +kernel)) dL_law_240 ?_
    refine k_top (z := xs 4) (by rw [cl_4]) ?_
    refine kI.callW (As := [.int (xs 1), .int (xs 2), .int (xs 3), .int (xs 4)]) (rest := [.int v1]) ⟨hx, hb, hml, hown, hg⟩ (c_part l o r f a g hF.2.2.2.2.2.2.2.2.2.2.2.1 (xs 1) (xs 2) (xs 3) (xs 4)) (cwV 4 hg (kgV wt6_88 wt6_89 wt6_90 wt1_14 wt6_91) rfl rfl rfl (by decide +kernel) ⟨by decide, by decide⟩) hK hP hD hS hA 0 12 rfl rfl rfl hl.1 rfl (Nat.le_of_ble_eq_true rfl) dL_law_241 ⟨by decide, by decide⟩ (fun v2 u2 H locs hw2 hP hD hS => ?_)
    refine lv_icmp_eq (tgt := 1128) hx hb dL_law_244 (by decide) (fun c1 => ?_) (fun c1 => absurd (hw1.trans ((q_partBad hok).symm.trans hw2.symm)) c1)
    exact law_tail l C0 hS hl (by decide) (by decide)
set_option maxHeartbeats 4000000 in
set_option maxRecDepth 100000 in
theorem law_of {p : Program} {e : Env} {s : State} {m : MethodId} {below : List Frame} {meth : Method} {c : Code} (l : Launch) {b : Nat} {xs : Nat → Int32} (C0 : lw_At p s m meth c b 6 xs) {D : va_G} {K : Nat → ClassId} (hK : va_K D vwCl (tysK K) s) (hE : kE K (fun q : Nat => s.heap.size ≤ q) s s.heap) (hT : kT (fun q : Nat => s.heap.size ≤ q) s s.heap) {u : Nat → Nat} {o : Nat} {r : Nat → Nat} {f : Nat → Int32} {a : Nat → Nat → Int32} {g : Nat → Int64} (hF : f 0 = 0 ∧ f 6 = 0 ∧ f 13 = 0 ∧ f 14 = (-1) ∧ f 33 = 0 ∧ f 37 = (-1) ∧ f 45 = (-1) ∧ a 2 22 = 0 ∧ a 2 99 = 30 ∧ a 2 100 = 2 ∧ a 2 101 = 0 ∧ a 2 102 = 0 ∧ a 2 103 = 0 ∧ a 2 104 = 0 ∧ a 2 105 = 0 ∧ a 2 106 = (-1) ∧ a 1 1 = 0 ∧ a 1 2 = 0 ∧ a 1 3 = 0 ∧ a 1 5 = 0 ∧ a 1 6 = 0 ∧ a 4 0 = 0 ∧ a 4 1 = 0) {H : Heap} {locs : List Loc} (hP : va_P D vwCl (xW K u xf0 xa0 xg0 ++ mW K o r f a g) H) (hD : va_D (fun q : Nat => s.heap.size ≤ q) (xW K u xf0 xa0 xg0 ++ mW K o r f a g)) (hS : va_S (fun q : Nat => s.heap.size ≤ q) s.heap H locs) {ls : Array Slot} (hl : lv_has ls 4 [(3, .int 0), (2, .ref o), (1, .ref (u 0)), (0, .ref b)]) : W p l e room_1 s m #[Value.ref b] below meth c H locs 117 26266 (lw_Z below #[Value.ref b] s) (F0 m 249 ls []) := by
  obtain ⟨hx, hb, hr, hml, hown, hts, hX, hbl, hlocks, hgv⟩ := id C0
  have hA : ∀ q : Nat, s.heap.size ≤ q → (fun q : Nat => s.heap.size ≤ q) q := fun _ h => h
  have hbA : ¬ (fun q : Nat => s.heap.size ≤ q) b := Nat.not_le.mpr hbl
  have hg : ∀ w ∈ kG, w.before #[Value.ref b] s = true := fun w h => hts w (kG_in w h)
  have hown : s.vm.findClass RL = some m.cls := hown
  refine lv_aload_n hx hb dL_law_249 rfl (lv_at hl 2 rfl) ?_
  refine lv_aload_n hx hb dL_law_250 rfl (lv_at hl 3 rfl) ?_
  refine lv_iload_n hx hb dL_law_251 rfl (lv_at hl 0 rfl) ?_
  refine lv_iconst (v := 1) hx hb dL_law_252 (by decide) ?_
  refine lv_iadd hx hb dL_law_253 ?_
  refine k_top (z := 1) (by decide +kernel) ?_
  refine va_sld hx hb hX hbl hbA hS (k_in (by decide +kernel)) dL_law_254 ?_
  refine k_top (z := xs 1) (by rw [cl_1]) ?_
  refine lv_aload_n hx hb dL_law_255 rfl (lv_at hl 3 rfl) ?_
  refine lv_iload_n hx hb dL_law_256 rfl (lv_at hl 0 rfl) ?_
  refine lv_iconst (v := 2) hx hb dL_law_257 (by decide) ?_
  refine lv_iadd hx hb dL_law_258 ?_
  refine k_top (z := 2) (by decide +kernel) ?_
  refine va_sld hx hb hX hbl hbA hS (k_in (by decide +kernel)) dL_law_259 ?_
  refine k_top (z := xs 2) (by rw [cl_2]) ?_
  refine kI.callL (As := [.int (xs 1), .int (xs 2)]) (rest := []) ⟨hx, hb, hml, hown, hg⟩ (x_of l u xf0 xa0 xg0 rfl (xs 1) (xs 2) ) (cwV 2 hg (kgV wt3_31 wt3_32 wt3_33 wt1_1 wt3_34) rfl rfl rfl (by decide +kernel) ⟨by decide, by decide⟩) hK hP hD hS hA 0 11 rfl rfl rfl hl.1 rfl (Nat.le_of_ble_eq_true rfl) dL_law_260 ⟨by decide, by decide⟩ (fun v1 u1 H locs hw1 hP hD hS => ?_)
  refine lv_aload_n hx hb dL_law_263 rfl (lv_at hl 1 rfl) ?_
  refine lv_aload_n hx hb dL_law_264 rfl (lv_at hl 3 rfl) ?_
  refine lv_iload_n hx hb dL_law_265 rfl (lv_at hl 0 rfl) ?_
  refine lv_iconst (v := 1) hx hb dL_law_266 (by decide) ?_
  refine lv_iadd hx hb dL_law_267 ?_
  refine k_top (z := 1) (by decide +kernel) ?_
  refine va_sld hx hb hX hbl hbA hS (k_in (by decide +kernel)) dL_law_268 ?_
  refine k_top (z := xs 1) (by rw [cl_1]) ?_
  refine lv_aload_n hx hb dL_law_269 rfl (lv_at hl 3 rfl) ?_
  refine lv_iload_n hx hb dL_law_270 rfl (lv_at hl 0 rfl) ?_
  refine lv_iconst (v := 2) hx hb dL_law_271 (by decide) ?_
  refine lv_iadd hx hb dL_law_272 ?_
  refine k_top (z := 2) (by decide +kernel) ?_
  refine va_sld hx hb hX hbl hbA hS (k_in (by decide +kernel)) dL_law_273 ?_
  refine k_top (z := xs 2) (by rw [cl_2]) ?_
  refine kI.callW (As := [.int (xs 1), .int (xs 2)]) (rest := [.int v1]) ⟨hx, hb, hml, hown, hg⟩ (c_of l o r f a g hF.2.2.2.2.2.2.2.2.2.2.2.1 (xs 1) (xs 2)) (cwV 2 hg (kgV wt6_100 wt6_101 wt6_102 wt1_14 wt6_103) rfl rfl rfl (by decide +kernel) ⟨by decide, by decide⟩) hK hP hD hS hA 0 12 rfl rfl rfl hl.1 rfl (Nat.le_of_ble_eq_true rfl) dL_law_274 ⟨by decide, by decide⟩ (fun v2 u2 H locs hw2 hP hD hS => ?_)
  refine lv_icmp_eq (tgt := 1128) hx hb dL_law_277 (by decide) (fun c1 => ?_) (fun c1 => absurd (hw1.trans hw2.symm) c1)
  exact law_tail l C0 hS hl (by decide) (by decide)
set_option maxHeartbeats 4000000 in
set_option maxRecDepth 100000 in
theorem law_builder {p : Program} {e : Env} {s : State} {m : MethodId} {below : List Frame} {meth : Method} {c : Code} (l : Launch) {b : Nat} {xs : Nat → Int32} (C0 : lw_At p s m meth c b 6 xs) {D : va_G} {K : Nat → ClassId} (hK : va_K D vwCl (tysK K) s) (hE : kE K (fun q : Nat => s.heap.size ≤ q) s s.heap) (hT : kT (fun q : Nat => s.heap.size ≤ q) s s.heap) {u : Nat → Nat} {o : Nat} {r : Nat → Nat} {f : Nat → Int32} {a : Nat → Nat → Int32} {g : Nat → Int64} (hF : f 0 = 0 ∧ f 6 = 0 ∧ f 13 = 0 ∧ f 14 = (-1) ∧ f 33 = 0 ∧ f 37 = (-1) ∧ f 45 = (-1) ∧ a 2 22 = 0 ∧ a 2 99 = 30 ∧ a 2 100 = 2 ∧ a 2 101 = 0 ∧ a 2 102 = 0 ∧ a 2 103 = 0 ∧ a 2 104 = 0 ∧ a 2 105 = 0 ∧ a 2 106 = (-1) ∧ a 1 1 = 0 ∧ a 1 2 = 0 ∧ a 1 3 = 0 ∧ a 1 5 = 0 ∧ a 1 6 = 0 ∧ a 4 0 = 0 ∧ a 4 1 = 0) {H : Heap} {locs : List Loc} (hP : va_P D vwCl (xW K u xf0 xa0 xg0 ++ mW K o r f a g) H) (hD : va_D (fun q : Nat => s.heap.size ≤ q) (xW K u xf0 xa0 xg0 ++ mW K o r f a g)) (hS : va_S (fun q : Nat => s.heap.size ≤ q) s.heap H locs) {ls : Array Slot} (hl : lv_has ls 4 [(3, .int 0), (2, .ref o), (1, .ref (u 0)), (0, .ref b)]) : W p l e room_1 s m #[Value.ref b] below meth c H locs 117 26266 (lw_Z below #[Value.ref b] s) (F0 m 282 ls []) := by
  obtain ⟨hx, hb, hr, hml, hown, hts, hX, hbl, hlocks, hgv⟩ := id C0
  have hA : ∀ q : Nat, s.heap.size ≤ q → (fun q : Nat => s.heap.size ≤ q) q := fun _ h => h
  have hbA : ¬ (fun q : Nat => s.heap.size ≤ q) b := Nat.not_le.mpr hbl
  have hg : ∀ w ∈ kG, w.before #[Value.ref b] s = true := fun w h => hts w (kG_in w h)
  have hown : s.vm.findClass RL = some m.cls := hown
  by_cases hok : xBldOk (xs 1) (xs 2)
  · refine lv_aload_n hx hb dL_law_282 rfl (lv_at hl 2 rfl) ?_
    refine lv_aload_n hx hb dL_law_283 rfl (lv_at hl 3 rfl) ?_
    refine lv_iload_n hx hb dL_law_284 rfl (lv_at hl 0 rfl) ?_
    refine lv_iconst (v := 1) hx hb dL_law_285 (by decide) ?_
    refine lv_iadd hx hb dL_law_286 ?_
    refine k_top (z := 1) (by decide +kernel) ?_
    refine va_sld hx hb hX hbl hbA hS (k_in (by decide +kernel)) dL_law_287 ?_
    refine k_top (z := xs 1) (by rw [cl_1]) ?_
    refine lv_aload_n hx hb dL_law_288 rfl (lv_at hl 3 rfl) ?_
    refine lv_iload_n hx hb dL_law_289 rfl (lv_at hl 0 rfl) ?_
    refine lv_iconst (v := 2) hx hb dL_law_290 (by decide) ?_
    refine lv_iadd hx hb dL_law_291 ?_
    refine k_top (z := 2) (by decide +kernel) ?_
    refine va_sld hx hb hX hbl hbA hS (k_in (by decide +kernel)) dL_law_292 ?_
    refine k_top (z := xs 2) (by rw [cl_2]) ?_
    refine kI.callL (As := [.int (xs 1), .int (xs 2)]) (rest := []) ⟨hx, hb, hml, hown, hg⟩ (x_builderOk l u xf0 xa0 xg0 rfl (xs 1) (xs 2) hok) (cwV 2 hg (kgV wt3_55 wt3_56 wt3_57 wt1_1 wt3_58) rfl rfl rfl (by decide +kernel) ⟨by decide, by decide⟩) hK hP hD hS hA 0 11 rfl rfl rfl hl.1 rfl (Nat.le_of_ble_eq_true rfl) dL_law_293 ⟨by decide, by decide⟩ (fun v1 u1 H locs hw1 hP hD hS => ?_)
    refine lv_aload_n hx hb dL_law_296 rfl (lv_at hl 1 rfl) ?_
    refine lv_aload_n hx hb dL_law_297 rfl (lv_at hl 3 rfl) ?_
    refine lv_iload_n hx hb dL_law_298 rfl (lv_at hl 0 rfl) ?_
    refine lv_iconst (v := 1) hx hb dL_law_299 (by decide) ?_
    refine lv_iadd hx hb dL_law_300 ?_
    refine k_top (z := 1) (by decide +kernel) ?_
    refine va_sld hx hb hX hbl hbA hS (k_in (by decide +kernel)) dL_law_301 ?_
    refine k_top (z := xs 1) (by rw [cl_1]) ?_
    refine lv_aload_n hx hb dL_law_302 rfl (lv_at hl 3 rfl) ?_
    refine lv_iload_n hx hb dL_law_303 rfl (lv_at hl 0 rfl) ?_
    refine lv_iconst (v := 2) hx hb dL_law_304 (by decide) ?_
    refine lv_iadd hx hb dL_law_305 ?_
    refine k_top (z := 2) (by decide +kernel) ?_
    refine va_sld hx hb hX hbl hbA hS (k_in (by decide +kernel)) dL_law_306 ?_
    refine k_top (z := xs 2) (by rw [cl_2]) ?_
    refine kI.callW (As := [.int (xs 1), .int (xs 2)]) (rest := [.int v1]) ⟨hx, hb, hml, hown, hg⟩ (c_builder l o r f a g hF.2.2.2.2.2.2.2.2.2.2.2.2.1 (xs 1) (xs 2)) (cwV 2 hg (kgV wt6_130 wt6_131 wt6_132 wt1_14 wt6_133) rfl rfl rfl (by decide +kernel) ⟨by decide, by decide⟩) hK hP hD hS hA 0 12 rfl rfl rfl hl.1 rfl (Nat.le_of_ble_eq_true rfl) dL_law_307 ⟨by decide, by decide⟩ (fun v2 u2 H locs hw2 hP hD hS => ?_)
    refine lv_icmp_eq (tgt := 1128) hx hb dL_law_310 (by decide) (fun c1 => ?_) (fun c1 => absurd (hw1.trans ((q_bldOk hok).symm.trans hw2.symm)) c1)
    exact law_tail l C0 hS hl (by decide) (by decide)
  · refine lv_aload_n hx hb dL_law_282 rfl (lv_at hl 2 rfl) ?_
    refine lv_aload_n hx hb dL_law_283 rfl (lv_at hl 3 rfl) ?_
    refine lv_iload_n hx hb dL_law_284 rfl (lv_at hl 0 rfl) ?_
    refine lv_iconst (v := 1) hx hb dL_law_285 (by decide) ?_
    refine lv_iadd hx hb dL_law_286 ?_
    refine k_top (z := 1) (by decide +kernel) ?_
    refine va_sld hx hb hX hbl hbA hS (k_in (by decide +kernel)) dL_law_287 ?_
    refine k_top (z := xs 1) (by rw [cl_1]) ?_
    refine lv_aload_n hx hb dL_law_288 rfl (lv_at hl 3 rfl) ?_
    refine lv_iload_n hx hb dL_law_289 rfl (lv_at hl 0 rfl) ?_
    refine lv_iconst (v := 2) hx hb dL_law_290 (by decide) ?_
    refine lv_iadd hx hb dL_law_291 ?_
    refine k_top (z := 2) (by decide +kernel) ?_
    refine va_sld hx hb hX hbl hbA hS (k_in (by decide +kernel)) dL_law_292 ?_
    refine k_top (z := xs 2) (by rw [cl_2]) ?_
    refine kI.callL (As := [.int (xs 1), .int (xs 2)]) (rest := []) ⟨hx, hb, hml, hown, hg⟩ (x_builderBad l u xf0 xa0 xg0 rfl (xs 1) (xs 2) hok) (cwV 2 hg (kgV wt3_55 wt3_56 wt3_57 wt1_1 wt3_58) rfl rfl rfl (by decide +kernel) ⟨by decide, by decide⟩) hK hP hD hS hA 0 11 rfl rfl rfl hl.1 rfl (Nat.le_of_ble_eq_true rfl) dL_law_293 ⟨by decide, by decide⟩ (fun v1 u1 H locs hw1 hP hD hS => ?_)
    refine lv_aload_n hx hb dL_law_296 rfl (lv_at hl 1 rfl) ?_
    refine lv_aload_n hx hb dL_law_297 rfl (lv_at hl 3 rfl) ?_
    refine lv_iload_n hx hb dL_law_298 rfl (lv_at hl 0 rfl) ?_
    refine lv_iconst (v := 1) hx hb dL_law_299 (by decide) ?_
    refine lv_iadd hx hb dL_law_300 ?_
    refine k_top (z := 1) (by decide +kernel) ?_
    refine va_sld hx hb hX hbl hbA hS (k_in (by decide +kernel)) dL_law_301 ?_
    refine k_top (z := xs 1) (by rw [cl_1]) ?_
    refine lv_aload_n hx hb dL_law_302 rfl (lv_at hl 3 rfl) ?_
    refine lv_iload_n hx hb dL_law_303 rfl (lv_at hl 0 rfl) ?_
    refine lv_iconst (v := 2) hx hb dL_law_304 (by decide) ?_
    refine lv_iadd hx hb dL_law_305 ?_
    refine k_top (z := 2) (by decide +kernel) ?_
    refine va_sld hx hb hX hbl hbA hS (k_in (by decide +kernel)) dL_law_306 ?_
    refine k_top (z := xs 2) (by rw [cl_2]) ?_
    refine kI.callW (As := [.int (xs 1), .int (xs 2)]) (rest := [.int v1]) ⟨hx, hb, hml, hown, hg⟩ (c_builder l o r f a g hF.2.2.2.2.2.2.2.2.2.2.2.2.1 (xs 1) (xs 2)) (cwV 2 hg (kgV wt6_130 wt6_131 wt6_132 wt1_14 wt6_133) rfl rfl rfl (by decide +kernel) ⟨by decide, by decide⟩) hK hP hD hS hA 0 12 rfl rfl rfl hl.1 rfl (Nat.le_of_ble_eq_true rfl) dL_law_307 ⟨by decide, by decide⟩ (fun v2 u2 H locs hw2 hP hD hS => ?_)
    refine lv_icmp_eq (tgt := 1128) hx hb dL_law_310 (by decide) (fun c1 => ?_) (fun c1 => absurd (hw1.trans ((q_bldBad hok).symm.trans hw2.symm)) c1)
    exact law_tail l C0 hS hl (by decide) (by decide)
set_option maxHeartbeats 4000000 in
set_option maxRecDepth 100000 in
theorem law_at {p : Program} {e : Env} {s : State} {m : MethodId} {below : List Frame} {meth : Method} {c : Code} (l : Launch) {b : Nat} {xs : Nat → Int32} (C0 : lw_At p s m meth c b 6 xs) {D : va_G} {K : Nat → ClassId} (hK : va_K D vwCl (tysK K) s) (hE : kE K (fun q : Nat => s.heap.size ≤ q) s s.heap) (hT : kT (fun q : Nat => s.heap.size ≤ q) s s.heap) {u : Nat → Nat} {o : Nat} {r : Nat → Nat} {f : Nat → Int32} {a : Nat → Nat → Int32} {g : Nat → Int64} (hF : f 0 = 0 ∧ f 6 = 0 ∧ f 13 = 0 ∧ f 14 = (-1) ∧ f 33 = 0 ∧ f 37 = (-1) ∧ f 45 = (-1) ∧ a 2 22 = 0 ∧ a 2 99 = 30 ∧ a 2 100 = 2 ∧ a 2 101 = 0 ∧ a 2 102 = 0 ∧ a 2 103 = 0 ∧ a 2 104 = 0 ∧ a 2 105 = 0 ∧ a 2 106 = (-1) ∧ a 1 1 = 0 ∧ a 1 2 = 0 ∧ a 1 3 = 0 ∧ a 1 5 = 0 ∧ a 1 6 = 0 ∧ a 4 0 = 0 ∧ a 4 1 = 0) {H : Heap} {locs : List Loc} (hP : va_P D vwCl (xW K u xf0 xa0 xg0 ++ mW K o r f a g) H) (hD : va_D (fun q : Nat => s.heap.size ≤ q) (xW K u xf0 xa0 xg0 ++ mW K o r f a g)) (hS : va_S (fun q : Nat => s.heap.size ≤ q) s.heap H locs) {ls : Array Slot} (hl : lv_has ls 4 [(3, .int 0), (2, .ref o), (1, .ref (u 0)), (0, .ref b)]) : W p l e room_1 s m #[Value.ref b] below meth c H locs 117 26266 (lw_Z below #[Value.ref b] s) (F0 m 315 ls []) := by
  obtain ⟨hx, hb, hr, hml, hown, hts, hX, hbl, hlocks, hgv⟩ := id C0
  have hA : ∀ q : Nat, s.heap.size ≤ q → (fun q : Nat => s.heap.size ≤ q) q := fun _ h => h
  have hbA : ¬ (fun q : Nat => s.heap.size ≤ q) b := Nat.not_le.mpr hbl
  have hg : ∀ w ∈ kG, w.before #[Value.ref b] s = true := fun w h => hts w (kG_in w h)
  have hown : s.vm.findClass RL = some m.cls := hown
  refine lv_aload_n hx hb dL_law_315 rfl (lv_at hl 2 rfl) ?_
  refine lv_aload_n hx hb dL_law_316 rfl (lv_at hl 3 rfl) ?_
  refine lv_iload_n hx hb dL_law_317 rfl (lv_at hl 0 rfl) ?_
  refine lv_iconst (v := 1) hx hb dL_law_318 (by decide) ?_
  refine lv_iadd hx hb dL_law_319 ?_
  refine k_top (z := 1) (by decide +kernel) ?_
  refine va_sld hx hb hX hbl hbA hS (k_in (by decide +kernel)) dL_law_320 ?_
  refine k_top (z := xs 1) (by rw [cl_1]) ?_
  refine lv_aload_n hx hb dL_law_321 rfl (lv_at hl 3 rfl) ?_
  refine lv_iload_n hx hb dL_law_322 rfl (lv_at hl 0 rfl) ?_
  refine lv_iconst (v := 2) hx hb dL_law_323 (by decide) ?_
  refine lv_iadd hx hb dL_law_324 ?_
  refine k_top (z := 2) (by decide +kernel) ?_
  refine va_sld hx hb hX hbl hbA hS (k_in (by decide +kernel)) dL_law_325 ?_
  refine k_top (z := xs 2) (by rw [cl_2]) ?_
  refine kI.callL (As := [.int (xs 1), .int (xs 2)]) (rest := []) ⟨hx, hb, hml, hown, hg⟩ (x_at l u xf0 xa0 xg0 rfl (xs 1) (xs 2) ) (cwV 2 hg (kgV wt3_63 wt3_64 wt3_65 wt1_1 wt3_66) rfl rfl rfl (by decide +kernel) ⟨by decide, by decide⟩) hK hP hD hS hA 0 11 rfl rfl rfl hl.1 rfl (Nat.le_of_ble_eq_true rfl) dL_law_326 ⟨by decide, by decide⟩ (fun v1 u1 H locs hw1 hP hD hS => ?_)
  refine lv_aload_n hx hb dL_law_329 rfl (lv_at hl 1 rfl) ?_
  refine lv_aload_n hx hb dL_law_330 rfl (lv_at hl 3 rfl) ?_
  refine lv_iload_n hx hb dL_law_331 rfl (lv_at hl 0 rfl) ?_
  refine lv_iconst (v := 1) hx hb dL_law_332 (by decide) ?_
  refine lv_iadd hx hb dL_law_333 ?_
  refine k_top (z := 1) (by decide +kernel) ?_
  refine va_sld hx hb hX hbl hbA hS (k_in (by decide +kernel)) dL_law_334 ?_
  refine k_top (z := xs 1) (by rw [cl_1]) ?_
  refine lv_aload_n hx hb dL_law_335 rfl (lv_at hl 3 rfl) ?_
  refine lv_iload_n hx hb dL_law_336 rfl (lv_at hl 0 rfl) ?_
  refine lv_iconst (v := 2) hx hb dL_law_337 (by decide) ?_
  refine lv_iadd hx hb dL_law_338 ?_
  refine k_top (z := 2) (by decide +kernel) ?_
  refine va_sld hx hb hX hbl hbA hS (k_in (by decide +kernel)) dL_law_339 ?_
  refine k_top (z := xs 2) (by rw [cl_2]) ?_
  refine kI.callW (As := [.int (xs 1), .int (xs 2)]) (rest := [.int v1]) ⟨hx, hb, hml, hown, hg⟩ (c_at l o r f a g hF.2.2.2.2.2.2.2.2.2.2.2.2.1 (xs 1) (xs 2)) (cwV 2 hg (kgV wt6_134 wt6_135 wt6_136 wt1_14 wt6_137) rfl rfl rfl (by decide +kernel) ⟨by decide, by decide⟩) hK hP hD hS hA 0 12 rfl rfl rfl hl.1 rfl (Nat.le_of_ble_eq_true rfl) dL_law_340 ⟨by decide, by decide⟩ (fun v2 u2 H locs hw2 hP hD hS => ?_)
  refine lv_icmp_eq (tgt := 1128) hx hb dL_law_343 (by decide) (fun c1 => ?_) (fun c1 => absurd (hw1.trans hw2.symm) c1)
  exact law_tail l C0 hS hl (by decide) (by decide)
set_option maxHeartbeats 4000000 in
set_option maxRecDepth 100000 in
theorem law_asks {p : Program} {e : Env} {s : State} {m : MethodId} {below : List Frame} {meth : Method} {c : Code} (l : Launch) {b : Nat} {xs : Nat → Int32} (C0 : lw_At p s m meth c b 6 xs) {D : va_G} {K : Nat → ClassId} (hK : va_K D vwCl (tysK K) s) (hE : kE K (fun q : Nat => s.heap.size ≤ q) s s.heap) (hT : kT (fun q : Nat => s.heap.size ≤ q) s s.heap) {u : Nat → Nat} {o : Nat} {r : Nat → Nat} {f : Nat → Int32} {a : Nat → Nat → Int32} {g : Nat → Int64} (hF : f 0 = 0 ∧ f 6 = 0 ∧ f 13 = 0 ∧ f 14 = (-1) ∧ f 33 = 0 ∧ f 37 = (-1) ∧ f 45 = (-1) ∧ a 2 22 = 0 ∧ a 2 99 = 30 ∧ a 2 100 = 2 ∧ a 2 101 = 0 ∧ a 2 102 = 0 ∧ a 2 103 = 0 ∧ a 2 104 = 0 ∧ a 2 105 = 0 ∧ a 2 106 = (-1) ∧ a 1 1 = 0 ∧ a 1 2 = 0 ∧ a 1 3 = 0 ∧ a 1 5 = 0 ∧ a 1 6 = 0 ∧ a 4 0 = 0 ∧ a 4 1 = 0) {H : Heap} {locs : List Loc} (hP : va_P D vwCl (xW K u xf0 xa0 xg0 ++ mW K o r f a g) H) (hD : va_D (fun q : Nat => s.heap.size ≤ q) (xW K u xf0 xa0 xg0 ++ mW K o r f a g)) (hS : va_S (fun q : Nat => s.heap.size ≤ q) s.heap H locs) {ls : Array Slot} (hl : lv_has ls 4 [(3, .int 0), (2, .ref o), (1, .ref (u 0)), (0, .ref b)]) : W p l e room_1 s m #[Value.ref b] below meth c H locs 117 26266 (lw_Z below #[Value.ref b] s) (F0 m 348 ls []) := by
  obtain ⟨hx, hb, hr, hml, hown, hts, hX, hbl, hlocks, hgv⟩ := id C0
  have hA : ∀ q : Nat, s.heap.size ≤ q → (fun q : Nat => s.heap.size ≤ q) q := fun _ h => h
  have hbA : ¬ (fun q : Nat => s.heap.size ≤ q) b := Nat.not_le.mpr hbl
  have hg : ∀ w ∈ kG, w.before #[Value.ref b] s = true := fun w h => hts w (kG_in w h)
  have hown : s.vm.findClass RL = some m.cls := hown
  refine lv_aload_n hx hb dL_law_348 rfl (lv_at hl 2 rfl) ?_
  refine lv_aload_n hx hb dL_law_349 rfl (lv_at hl 3 rfl) ?_
  refine lv_iload_n hx hb dL_law_350 rfl (lv_at hl 0 rfl) ?_
  refine lv_iconst (v := 1) hx hb dL_law_351 (by decide) ?_
  refine lv_iadd hx hb dL_law_352 ?_
  refine k_top (z := 1) (by decide +kernel) ?_
  refine va_sld hx hb hX hbl hbA hS (k_in (by decide +kernel)) dL_law_353 ?_
  refine k_top (z := xs 1) (by rw [cl_1]) ?_
  refine lv_aload_n hx hb dL_law_354 rfl (lv_at hl 3 rfl) ?_
  refine lv_iload_n hx hb dL_law_355 rfl (lv_at hl 0 rfl) ?_
  refine lv_iconst (v := 2) hx hb dL_law_356 (by decide) ?_
  refine lv_iadd hx hb dL_law_357 ?_
  refine k_top (z := 2) (by decide +kernel) ?_
  refine va_sld hx hb hX hbl hbA hS (k_in (by decide +kernel)) dL_law_358 ?_
  refine k_top (z := xs 2) (by rw [cl_2]) ?_
  refine lv_aload_n hx hb dL_law_359 rfl (lv_at hl 3 rfl) ?_
  refine lv_iload_n hx hb dL_law_360 rfl (lv_at hl 0 rfl) ?_
  refine lv_iconst (v := 3) hx hb dL_law_361 (by decide) ?_
  refine lv_iadd hx hb dL_law_362 ?_
  refine k_top (z := 3) (by decide +kernel) ?_
  refine va_sld hx hb hX hbl hbA hS (k_in (by decide +kernel)) dL_law_363 ?_
  refine k_top (z := xs 3) (by rw [cl_3]) ?_
  refine kI.callL (As := [.int (xs 1), .int (xs 2), .int (xs 3)]) (rest := []) ⟨hx, hb, hml, hown, hg⟩ (x_asks l u xf0 xa0 xg0 rfl (xs 1) (xs 2) (xs 3) ) (cwV 3 hg (kgV wt3_71 wt3_72 wt3_73 wt1_1 wt3_74) rfl rfl rfl (by decide +kernel) ⟨by decide, by decide⟩) hK hP hD hS hA 0 11 rfl rfl rfl hl.1 rfl (Nat.le_of_ble_eq_true rfl) dL_law_364 ⟨by decide, by decide⟩ (fun v1 u1 H locs hw1 hP hD hS => ?_)
  refine lv_aload_n hx hb dL_law_367 rfl (lv_at hl 1 rfl) ?_
  refine lv_aload_n hx hb dL_law_368 rfl (lv_at hl 3 rfl) ?_
  refine lv_iload_n hx hb dL_law_369 rfl (lv_at hl 0 rfl) ?_
  refine lv_iconst (v := 1) hx hb dL_law_370 (by decide) ?_
  refine lv_iadd hx hb dL_law_371 ?_
  refine k_top (z := 1) (by decide +kernel) ?_
  refine va_sld hx hb hX hbl hbA hS (k_in (by decide +kernel)) dL_law_372 ?_
  refine k_top (z := xs 1) (by rw [cl_1]) ?_
  refine lv_aload_n hx hb dL_law_373 rfl (lv_at hl 3 rfl) ?_
  refine lv_iload_n hx hb dL_law_374 rfl (lv_at hl 0 rfl) ?_
  refine lv_iconst (v := 2) hx hb dL_law_375 (by decide) ?_
  refine lv_iadd hx hb dL_law_376 ?_
  refine k_top (z := 2) (by decide +kernel) ?_
  refine va_sld hx hb hX hbl hbA hS (k_in (by decide +kernel)) dL_law_377 ?_
  refine k_top (z := xs 2) (by rw [cl_2]) ?_
  refine lv_aload_n hx hb dL_law_378 rfl (lv_at hl 3 rfl) ?_
  refine lv_iload_n hx hb dL_law_379 rfl (lv_at hl 0 rfl) ?_
  refine lv_iconst (v := 3) hx hb dL_law_380 (by decide) ?_
  refine lv_iadd hx hb dL_law_381 ?_
  refine k_top (z := 3) (by decide +kernel) ?_
  refine va_sld hx hb hX hbl hbA hS (k_in (by decide +kernel)) dL_law_382 ?_
  refine k_top (z := xs 3) (by rw [cl_3]) ?_
  refine kI.callW (As := [.int (xs 1), .int (xs 2), .int (xs 3)]) (rest := [.int v1]) ⟨hx, hb, hml, hown, hg⟩ (c_asks l o r f a g hF.2.2.2.2.2.2.2.2.2.2.2.2.1 (xs 1) (xs 2) (xs 3)) (cwV 3 hg (kgV wt7_27 wt7_28 wt7_29 wt1_14 wt7_30) rfl rfl rfl (by decide +kernel) ⟨by decide, by decide⟩) hK hP hD hS hA 0 12 rfl rfl rfl hl.1 rfl (Nat.le_of_ble_eq_true rfl) dL_law_383 ⟨by decide, by decide⟩ (fun v2 u2 H locs hw2 hP hD hS => ?_)
  refine lv_icmp_eq (tgt := 1128) hx hb dL_law_386 (by decide) (fun c1 => ?_) (fun c1 => absurd (hw1.trans hw2.symm) c1)
  exact law_tail l C0 hS hl (by decide) (by decide)
set_option maxHeartbeats 4000000 in
set_option maxRecDepth 100000 in
theorem law_terms {p : Program} {e : Env} {s : State} {m : MethodId} {below : List Frame} {meth : Method} {c : Code} (l : Launch) {b : Nat} {xs : Nat → Int32} (C0 : lw_At p s m meth c b 6 xs) {D : va_G} {K : Nat → ClassId} (hK : va_K D vwCl (tysK K) s) (hE : kE K (fun q : Nat => s.heap.size ≤ q) s s.heap) (hT : kT (fun q : Nat => s.heap.size ≤ q) s s.heap) {u : Nat → Nat} {o : Nat} {r : Nat → Nat} {f : Nat → Int32} {a : Nat → Nat → Int32} {g : Nat → Int64} (hF : f 0 = 0 ∧ f 6 = 0 ∧ f 13 = 0 ∧ f 14 = (-1) ∧ f 33 = 0 ∧ f 37 = (-1) ∧ f 45 = (-1) ∧ a 2 22 = 0 ∧ a 2 99 = 30 ∧ a 2 100 = 2 ∧ a 2 101 = 0 ∧ a 2 102 = 0 ∧ a 2 103 = 0 ∧ a 2 104 = 0 ∧ a 2 105 = 0 ∧ a 2 106 = (-1) ∧ a 1 1 = 0 ∧ a 1 2 = 0 ∧ a 1 3 = 0 ∧ a 1 5 = 0 ∧ a 1 6 = 0 ∧ a 4 0 = 0 ∧ a 4 1 = 0) {H : Heap} {locs : List Loc} (hP : va_P D vwCl (xW K u xf0 xa0 xg0 ++ mW K o r f a g) H) (hD : va_D (fun q : Nat => s.heap.size ≤ q) (xW K u xf0 xa0 xg0 ++ mW K o r f a g)) (hS : va_S (fun q : Nat => s.heap.size ≤ q) s.heap H locs) {ls : Array Slot} (hl : lv_has ls 4 [(3, .int 0), (2, .ref o), (1, .ref (u 0)), (0, .ref b)]) : W p l e room_1 s m #[Value.ref b] below meth c H locs 117 26266 (lw_Z below #[Value.ref b] s) (F0 m 391 ls []) := by
  obtain ⟨hx, hb, hr, hml, hown, hts, hX, hbl, hlocks, hgv⟩ := id C0
  have hA : ∀ q : Nat, s.heap.size ≤ q → (fun q : Nat => s.heap.size ≤ q) q := fun _ h => h
  have hbA : ¬ (fun q : Nat => s.heap.size ≤ q) b := Nat.not_le.mpr hbl
  have hg : ∀ w ∈ kG, w.before #[Value.ref b] s = true := fun w h => hts w (kG_in w h)
  have hown : s.vm.findClass RL = some m.cls := hown
  refine lv_aload_n hx hb dL_law_391 rfl (lv_at hl 2 rfl) ?_
  refine lv_aload_n hx hb dL_law_392 rfl (lv_at hl 3 rfl) ?_
  refine lv_iload_n hx hb dL_law_393 rfl (lv_at hl 0 rfl) ?_
  refine lv_iconst (v := 1) hx hb dL_law_394 (by decide) ?_
  refine lv_iadd hx hb dL_law_395 ?_
  refine k_top (z := 1) (by decide +kernel) ?_
  refine va_sld hx hb hX hbl hbA hS (k_in (by decide +kernel)) dL_law_396 ?_
  refine k_top (z := xs 1) (by rw [cl_1]) ?_
  refine lv_aload_n hx hb dL_law_397 rfl (lv_at hl 3 rfl) ?_
  refine lv_iload_n hx hb dL_law_398 rfl (lv_at hl 0 rfl) ?_
  refine lv_iconst (v := 2) hx hb dL_law_399 (by decide) ?_
  refine lv_iadd hx hb dL_law_400 ?_
  refine k_top (z := 2) (by decide +kernel) ?_
  refine va_sld hx hb hX hbl hbA hS (k_in (by decide +kernel)) dL_law_401 ?_
  refine k_top (z := xs 2) (by rw [cl_2]) ?_
  refine kIE.callL (As := [.int (xs 1), .int (xs 2)]) (rest := []) ⟨hx, hb, hml, hown, hg⟩ (x_terms l u xf0 xa0 xg0 rfl rfl rfl rfl (xs 1) (xs 2) ) (fun _ _ _ _ hv h => kT.same hv h) (fun U hU hW => hT.to hW (fun q h1 h2 => hS.2.1 q h1 h2) (kwFree (k_dL hD) hS hA)) (cwV 2 hg (kgV wt3_113 wt3_114 wt3_115 wt1_1 wt3_116) rfl rfl rfl (by decide +kernel) ⟨by decide, by decide⟩) hK hP hD hS hA 0 11 rfl rfl rfl hl.1 rfl (Nat.le_of_ble_eq_true rfl) dL_law_402 ⟨by decide, by decide⟩ (fun v1 u1 H locs hw1 hP hD hS => ?_)
  refine lv_aload_n hx hb dL_law_405 rfl (lv_at hl 1 rfl) ?_
  refine lv_aload_n hx hb dL_law_406 rfl (lv_at hl 3 rfl) ?_
  refine lv_iload_n hx hb dL_law_407 rfl (lv_at hl 0 rfl) ?_
  refine lv_iconst (v := 1) hx hb dL_law_408 (by decide) ?_
  refine lv_iadd hx hb dL_law_409 ?_
  refine k_top (z := 1) (by decide +kernel) ?_
  refine va_sld hx hb hX hbl hbA hS (k_in (by decide +kernel)) dL_law_410 ?_
  refine k_top (z := xs 1) (by rw [cl_1]) ?_
  refine lv_aload_n hx hb dL_law_411 rfl (lv_at hl 3 rfl) ?_
  refine lv_iload_n hx hb dL_law_412 rfl (lv_at hl 0 rfl) ?_
  refine lv_iconst (v := 2) hx hb dL_law_413 (by decide) ?_
  refine lv_iadd hx hb dL_law_414 ?_
  refine k_top (z := 2) (by decide +kernel) ?_
  refine va_sld hx hb hX hbl hbA hS (k_in (by decide +kernel)) dL_law_415 ?_
  refine k_top (z := xs 2) (by rw [cl_2]) ?_
  refine kI.callW (As := [.int (xs 1), .int (xs 2)]) (rest := [.int v1]) ⟨hx, hb, hml, hown, hg⟩ (c_terms l o r f a g hF.2.2.2.2.2.2.2.1 hF.2.2.2.2.2.2.2.2.1 hF.2.2.2.2.2.2.2.2.2.1 hF.2.2.2.2.2.2.2.2.2.2.1 (xs 1) (xs 2)) (cwV 2 hg (kgV wt6_142 wt6_143 wt6_144 wt1_14 wt6_145) rfl rfl rfl (by decide +kernel) ⟨by decide, by decide⟩) hK hP hD hS hA 0 12 rfl rfl rfl hl.1 rfl (Nat.le_of_ble_eq_true rfl) dL_law_416 ⟨by decide, by decide⟩ (fun v2 u2 H locs hw2 hP hD hS => ?_)
  refine lv_icmp_eq (tgt := 1128) hx hb dL_law_419 (by decide) (fun c1 => ?_) (fun c1 => absurd (hw1.trans ((q_terms (xs 1) (xs 2)).trans hw2.symm)) c1)
  exact law_tail l C0 hS hl (by decide) (by decide)
set_option maxHeartbeats 4000000 in
set_option maxRecDepth 100000 in
theorem law_feed {p : Program} {e : Env} {s : State} {m : MethodId} {below : List Frame} {meth : Method} {c : Code} (l : Launch) {b : Nat} {xs : Nat → Int32} (C0 : lw_At p s m meth c b 6 xs) {D : va_G} {K : Nat → ClassId} (hK : va_K D vwCl (tysK K) s) (hE : kE K (fun q : Nat => s.heap.size ≤ q) s s.heap) (hT : kT (fun q : Nat => s.heap.size ≤ q) s s.heap) {u : Nat → Nat} {o : Nat} {r : Nat → Nat} {f : Nat → Int32} {a : Nat → Nat → Int32} {g : Nat → Int64} (hF : f 0 = 0 ∧ f 6 = 0 ∧ f 13 = 0 ∧ f 14 = (-1) ∧ f 33 = 0 ∧ f 37 = (-1) ∧ f 45 = (-1) ∧ a 2 22 = 0 ∧ a 2 99 = 30 ∧ a 2 100 = 2 ∧ a 2 101 = 0 ∧ a 2 102 = 0 ∧ a 2 103 = 0 ∧ a 2 104 = 0 ∧ a 2 105 = 0 ∧ a 2 106 = (-1) ∧ a 1 1 = 0 ∧ a 1 2 = 0 ∧ a 1 3 = 0 ∧ a 1 5 = 0 ∧ a 1 6 = 0 ∧ a 4 0 = 0 ∧ a 4 1 = 0) {H : Heap} {locs : List Loc} (hP : va_P D vwCl (xW K u xf0 xa0 xg0 ++ mW K o r f a g) H) (hD : va_D (fun q : Nat => s.heap.size ≤ q) (xW K u xf0 xa0 xg0 ++ mW K o r f a g)) (hS : va_S (fun q : Nat => s.heap.size ≤ q) s.heap H locs) {ls : Array Slot} (hl : lv_has ls 4 [(3, .int 0), (2, .ref o), (1, .ref (u 0)), (0, .ref b)]) : W p l e room_1 s m #[Value.ref b] below meth c H locs 117 26266 (lw_Z below #[Value.ref b] s) (F0 m 424 ls []) := by
  obtain ⟨hx, hb, hr, hml, hown, hts, hX, hbl, hlocks, hgv⟩ := id C0
  have hA : ∀ q : Nat, s.heap.size ≤ q → (fun q : Nat => s.heap.size ≤ q) q := fun _ h => h
  have hbA : ¬ (fun q : Nat => s.heap.size ≤ q) b := Nat.not_le.mpr hbl
  have hg : ∀ w ∈ kG, w.before #[Value.ref b] s = true := fun w h => hts w (kG_in w h)
  have hown : s.vm.findClass RL = some m.cls := hown
  refine lv_aload_n hx hb dL_law_424 rfl (lv_at hl 2 rfl) ?_
  refine lv_aload_n hx hb dL_law_425 rfl (lv_at hl 3 rfl) ?_
  refine lv_iload_n hx hb dL_law_426 rfl (lv_at hl 0 rfl) ?_
  refine lv_iconst (v := 1) hx hb dL_law_427 (by decide) ?_
  refine lv_iadd hx hb dL_law_428 ?_
  refine k_top (z := 1) (by decide +kernel) ?_
  refine va_sld hx hb hX hbl hbA hS (k_in (by decide +kernel)) dL_law_429 ?_
  refine k_top (z := xs 1) (by rw [cl_1]) ?_
  refine lv_aload_n hx hb dL_law_430 rfl (lv_at hl 3 rfl) ?_
  refine lv_iload_n hx hb dL_law_431 rfl (lv_at hl 0 rfl) ?_
  refine lv_iconst (v := 2) hx hb dL_law_432 (by decide) ?_
  refine lv_iadd hx hb dL_law_433 ?_
  refine k_top (z := 2) (by decide +kernel) ?_
  refine va_sld hx hb hX hbl hbA hS (k_in (by decide +kernel)) dL_law_434 ?_
  refine k_top (z := xs 2) (by rw [cl_2]) ?_
  refine lv_aload_n hx hb dL_law_435 rfl (lv_at hl 3 rfl) ?_
  refine lv_iload_n hx hb dL_law_436 rfl (lv_at hl 0 rfl) ?_
  refine lv_iconst (v := 3) hx hb dL_law_437 (by decide) ?_
  refine lv_iadd hx hb dL_law_438 ?_
  refine k_top (z := 3) (by decide +kernel) ?_
  refine va_sld hx hb hX hbl hbA hS (k_in (by decide +kernel)) dL_law_439 ?_
  refine k_top (z := xs 3) (by rw [cl_3]) ?_
  refine lv_aload_n hx hb dL_law_440 rfl (lv_at hl 3 rfl) ?_
  refine lv_iload_n hx hb dL_law_441 rfl (lv_at hl 0 rfl) ?_
  refine lv_iconst (v := 4) hx hb dL_law_442 (by decide) ?_
  refine lv_iadd hx hb dL_law_443 ?_
  refine k_top (z := 4) (by decide +kernel) ?_
  refine va_sld hx hb hX hbl hbA hS (k_in (by decide +kernel)) dL_law_444 ?_
  refine k_top (z := xs 4) (by rw [cl_4]) ?_
  refine lv_aload_n hx hb dL_law_445 rfl (lv_at hl 3 rfl) ?_
  refine lv_iload_n hx hb dL_law_446 rfl (lv_at hl 0 rfl) ?_
  refine lv_iconst (v := 5) hx hb dL_law_447 (by decide) ?_
  refine lv_iadd hx hb dL_law_448 ?_
  refine k_top (z := 5) (by decide +kernel) ?_
  refine va_sld hx hb hX hbl hbA hS (k_in (by decide +kernel)) dL_law_449 ?_
  refine k_top (z := xs 5) (by rw [cl_5]) ?_
  refine kI.callL (As := [.int (xs 1), .int (xs 2), .int (xs 3), .int (xs 4), .int (xs 5)]) (rest := []) ⟨hx, hb, hml, hown, hg⟩ (x_feed l u xf0 xa0 xg0 rfl (xs 1) (xs 2) (xs 3) (xs 4) (xs 5) ) (cwV 5 hg (kgV wt3_121 wt3_122 wt3_123 wt1_1 wt3_124) rfl rfl rfl (by decide +kernel) ⟨by decide, by decide⟩) hK hP hD hS hA 0 11 rfl rfl rfl hl.1 rfl (Nat.le_of_ble_eq_true rfl) dL_law_450 ⟨by decide, by decide⟩ (fun v1 u1 H locs hw1 hP hD hS => ?_)
  refine lv_aload_n hx hb dL_law_453 rfl (lv_at hl 1 rfl) ?_
  refine lv_aload_n hx hb dL_law_454 rfl (lv_at hl 3 rfl) ?_
  refine lv_iload_n hx hb dL_law_455 rfl (lv_at hl 0 rfl) ?_
  refine lv_iconst (v := 1) hx hb dL_law_456 (by decide) ?_
  refine lv_iadd hx hb dL_law_457 ?_
  refine k_top (z := 1) (by decide +kernel) ?_
  refine va_sld hx hb hX hbl hbA hS (k_in (by decide +kernel)) dL_law_458 ?_
  refine k_top (z := xs 1) (by rw [cl_1]) ?_
  refine lv_aload_n hx hb dL_law_459 rfl (lv_at hl 3 rfl) ?_
  refine lv_iload_n hx hb dL_law_460 rfl (lv_at hl 0 rfl) ?_
  refine lv_iconst (v := 2) hx hb dL_law_461 (by decide) ?_
  refine lv_iadd hx hb dL_law_462 ?_
  refine k_top (z := 2) (by decide +kernel) ?_
  refine va_sld hx hb hX hbl hbA hS (k_in (by decide +kernel)) dL_law_463 ?_
  refine k_top (z := xs 2) (by rw [cl_2]) ?_
  refine lv_aload_n hx hb dL_law_464 rfl (lv_at hl 3 rfl) ?_
  refine lv_iload_n hx hb dL_law_465 rfl (lv_at hl 0 rfl) ?_
  refine lv_iconst (v := 3) hx hb dL_law_466 (by decide) ?_
  refine lv_iadd hx hb dL_law_467 ?_
  refine k_top (z := 3) (by decide +kernel) ?_
  refine va_sld hx hb hX hbl hbA hS (k_in (by decide +kernel)) dL_law_468 ?_
  refine k_top (z := xs 3) (by rw [cl_3]) ?_
  refine lv_aload_n hx hb dL_law_469 rfl (lv_at hl 3 rfl) ?_
  refine lv_iload_n hx hb dL_law_470 rfl (lv_at hl 0 rfl) ?_
  refine lv_iconst (v := 4) hx hb dL_law_471 (by decide) ?_
  refine lv_iadd hx hb dL_law_472 ?_
  refine k_top (z := 4) (by decide +kernel) ?_
  refine va_sld hx hb hX hbl hbA hS (k_in (by decide +kernel)) dL_law_473 ?_
  refine k_top (z := xs 4) (by rw [cl_4]) ?_
  refine lv_aload_n hx hb dL_law_474 rfl (lv_at hl 3 rfl) ?_
  refine lv_iload_n hx hb dL_law_475 rfl (lv_at hl 0 rfl) ?_
  refine lv_iconst (v := 5) hx hb dL_law_476 (by decide) ?_
  refine lv_iadd hx hb dL_law_477 ?_
  refine k_top (z := 5) (by decide +kernel) ?_
  refine va_sld hx hb hX hbl hbA hS (k_in (by decide +kernel)) dL_law_478 ?_
  refine k_top (z := xs 5) (by rw [cl_5]) ?_
  refine kI.callW (As := [.int (xs 1), .int (xs 2), .int (xs 3), .int (xs 4), .int (xs 5)]) (rest := [.int v1]) ⟨hx, hb, hml, hown, hg⟩ (c_feed l o r f a g hF.2.2.1 (xs 1) (xs 2) (xs 3) (xs 4) (xs 5)) (cwV 5 hg (kgV wt6_157 wt6_158 wt6_159 wt1_14 wt6_160) rfl rfl rfl (by decide +kernel) ⟨by decide, by decide⟩) hK hP hD hS hA 0 12 rfl rfl rfl hl.1 rfl (Nat.le_of_ble_eq_true rfl) dL_law_479 ⟨by decide, by decide⟩ (fun v2 u2 H locs hw2 hP hD hS => ?_)
  refine lv_icmp_eq (tgt := 1128) hx hb dL_law_482 (by decide) (fun c1 => ?_) (fun c1 => absurd (hw1.trans hw2.symm) c1)
  exact law_tail l C0 hS hl (by decide) (by decide)
set_option maxHeartbeats 4000000 in
set_option maxRecDepth 100000 in
theorem law_end {p : Program} {e : Env} {s : State} {m : MethodId} {below : List Frame} {meth : Method} {c : Code} (l : Launch) {b : Nat} {xs : Nat → Int32} (C0 : lw_At p s m meth c b 6 xs) {D : va_G} {K : Nat → ClassId} (hK : va_K D vwCl (tysK K) s) (hE : kE K (fun q : Nat => s.heap.size ≤ q) s s.heap) (hT : kT (fun q : Nat => s.heap.size ≤ q) s s.heap) {u : Nat → Nat} {o : Nat} {r : Nat → Nat} {f : Nat → Int32} {a : Nat → Nat → Int32} {g : Nat → Int64} (hF : f 0 = 0 ∧ f 6 = 0 ∧ f 13 = 0 ∧ f 14 = (-1) ∧ f 33 = 0 ∧ f 37 = (-1) ∧ f 45 = (-1) ∧ a 2 22 = 0 ∧ a 2 99 = 30 ∧ a 2 100 = 2 ∧ a 2 101 = 0 ∧ a 2 102 = 0 ∧ a 2 103 = 0 ∧ a 2 104 = 0 ∧ a 2 105 = 0 ∧ a 2 106 = (-1) ∧ a 1 1 = 0 ∧ a 1 2 = 0 ∧ a 1 3 = 0 ∧ a 1 5 = 0 ∧ a 1 6 = 0 ∧ a 4 0 = 0 ∧ a 4 1 = 0) {H : Heap} {locs : List Loc} (hP : va_P D vwCl (xW K u xf0 xa0 xg0 ++ mW K o r f a g) H) (hD : va_D (fun q : Nat => s.heap.size ≤ q) (xW K u xf0 xa0 xg0 ++ mW K o r f a g)) (hS : va_S (fun q : Nat => s.heap.size ≤ q) s.heap H locs) {ls : Array Slot} (hl : lv_has ls 4 [(3, .int 0), (2, .ref o), (1, .ref (u 0)), (0, .ref b)]) : W p l e room_1 s m #[Value.ref b] below meth c H locs 117 26266 (lw_Z below #[Value.ref b] s) (F0 m 487 ls []) := by
  obtain ⟨hx, hb, hr, hml, hown, hts, hX, hbl, hlocks, hgv⟩ := id C0
  have hA : ∀ q : Nat, s.heap.size ≤ q → (fun q : Nat => s.heap.size ≤ q) q := fun _ h => h
  have hbA : ¬ (fun q : Nat => s.heap.size ≤ q) b := Nat.not_le.mpr hbl
  have hg : ∀ w ∈ kG, w.before #[Value.ref b] s = true := fun w h => hts w (kG_in w h)
  have hown : s.vm.findClass RL = some m.cls := hown
  refine lv_aload_n hx hb dL_law_487 rfl (lv_at hl 2 rfl) ?_
  refine lv_aload_n hx hb dL_law_488 rfl (lv_at hl 3 rfl) ?_
  refine lv_iload_n hx hb dL_law_489 rfl (lv_at hl 0 rfl) ?_
  refine lv_iconst (v := 1) hx hb dL_law_490 (by decide) ?_
  refine lv_iadd hx hb dL_law_491 ?_
  refine k_top (z := 1) (by decide +kernel) ?_
  refine va_sld hx hb hX hbl hbA hS (k_in (by decide +kernel)) dL_law_492 ?_
  refine k_top (z := xs 1) (by rw [cl_1]) ?_
  refine kI.callL (As := [.int (xs 1)]) (rest := []) ⟨hx, hb, hml, hown, hg⟩ (x_end l u xf0 xa0 xg0 rfl (xs 1) ) (cwV 1 hg (kgV wt3_129 wt3_130 wt3_131 wt1_1 wt3_132) rfl rfl rfl (by decide +kernel) ⟨by decide, by decide⟩) hK hP hD hS hA 0 11 rfl rfl rfl hl.1 rfl (Nat.le_of_ble_eq_true rfl) dL_law_493 ⟨by decide, by decide⟩ (fun v1 u1 H locs hw1 hP hD hS => ?_)
  refine lv_aload_n hx hb dL_law_496 rfl (lv_at hl 1 rfl) ?_
  refine lv_aload_n hx hb dL_law_497 rfl (lv_at hl 3 rfl) ?_
  refine lv_iload_n hx hb dL_law_498 rfl (lv_at hl 0 rfl) ?_
  refine lv_iconst (v := 1) hx hb dL_law_499 (by decide) ?_
  refine lv_iadd hx hb dL_law_500 ?_
  refine k_top (z := 1) (by decide +kernel) ?_
  refine va_sld hx hb hX hbl hbA hS (k_in (by decide +kernel)) dL_law_501 ?_
  refine k_top (z := xs 1) (by rw [cl_1]) ?_
  refine kI.callW (As := [.int (xs 1)]) (rest := [.int v1]) ⟨hx, hb, hml, hown, hg⟩ (c_end l o r f a g hF.2.2.1 (xs 1)) (cwV 1 hg (kgV wt6_161 wt6_162 wt6_163 wt1_14 wt6_164) rfl rfl rfl (by decide +kernel) ⟨by decide, by decide⟩) hK hP hD hS hA 0 12 rfl rfl rfl hl.1 rfl (Nat.le_of_ble_eq_true rfl) dL_law_502 ⟨by decide, by decide⟩ (fun v2 u2 H locs hw2 hP hD hS => ?_)
  refine lv_icmp_eq (tgt := 1128) hx hb dL_law_505 (by decide) (fun c1 => ?_) (fun c1 => absurd (hw1.trans ((q_end (xs 1)).trans hw2.symm)) c1)
  exact law_tail l C0 hS hl (by decide) (by decide)
set_option maxHeartbeats 4000000 in
set_option maxRecDepth 100000 in
theorem law_row {p : Program} {e : Env} {s : State} {m : MethodId} {below : List Frame} {meth : Method} {c : Code} (l : Launch) {b : Nat} {xs : Nat → Int32} (C0 : lw_At p s m meth c b 6 xs) {D : va_G} {K : Nat → ClassId} (hK : va_K D vwCl (tysK K) s) (hE : kE K (fun q : Nat => s.heap.size ≤ q) s s.heap) (hT : kT (fun q : Nat => s.heap.size ≤ q) s s.heap) {u : Nat → Nat} {o : Nat} {r : Nat → Nat} {f : Nat → Int32} {a : Nat → Nat → Int32} {g : Nat → Int64} (hF : f 0 = 0 ∧ f 6 = 0 ∧ f 13 = 0 ∧ f 14 = (-1) ∧ f 33 = 0 ∧ f 37 = (-1) ∧ f 45 = (-1) ∧ a 2 22 = 0 ∧ a 2 99 = 30 ∧ a 2 100 = 2 ∧ a 2 101 = 0 ∧ a 2 102 = 0 ∧ a 2 103 = 0 ∧ a 2 104 = 0 ∧ a 2 105 = 0 ∧ a 2 106 = (-1) ∧ a 1 1 = 0 ∧ a 1 2 = 0 ∧ a 1 3 = 0 ∧ a 1 5 = 0 ∧ a 1 6 = 0 ∧ a 4 0 = 0 ∧ a 4 1 = 0) {H : Heap} {locs : List Loc} (hP : va_P D vwCl (xW K u xf0 xa0 xg0 ++ mW K o r f a g) H) (hD : va_D (fun q : Nat => s.heap.size ≤ q) (xW K u xf0 xa0 xg0 ++ mW K o r f a g)) (hS : va_S (fun q : Nat => s.heap.size ≤ q) s.heap H locs) {ls : Array Slot} (hl : lv_has ls 4 [(3, .int 0), (2, .ref o), (1, .ref (u 0)), (0, .ref b)]) : W p l e room_1 s m #[Value.ref b] below meth c H locs 117 26266 (lw_Z below #[Value.ref b] s) (F0 m 510 ls []) := by
  obtain ⟨hx, hb, hr, hml, hown, hts, hX, hbl, hlocks, hgv⟩ := id C0
  have hA : ∀ q : Nat, s.heap.size ≤ q → (fun q : Nat => s.heap.size ≤ q) q := fun _ h => h
  have hbA : ¬ (fun q : Nat => s.heap.size ≤ q) b := Nat.not_le.mpr hbl
  have hg : ∀ w ∈ kG, w.before #[Value.ref b] s = true := fun w h => hts w (kG_in w h)
  have hown : s.vm.findClass RL = some m.cls := hown
  refine lv_aload_n hx hb dL_law_510 rfl (lv_at hl 2 rfl) ?_
  refine kI.callL (As := []) (rest := []) ⟨hx, hb, hml, hown, hg⟩ (x_row l u xf0 xa0 xg0 rfl  ) (cwV 0 hg (kgV wt3_133 wt3_134 wt3_135 wt1_1 wt3_136) rfl rfl rfl (by decide +kernel) ⟨by decide, by decide⟩) hK hP hD hS hA 0 11 rfl rfl rfl hl.1 rfl (Nat.le_of_ble_eq_true rfl) dL_law_511 ⟨by decide, by decide⟩ (fun v1 u1 H locs hw1 hP hD hS => ?_)
  refine lv_aload_n hx hb dL_law_514 rfl (lv_at hl 1 rfl) ?_
  refine kI.callW (As := []) (rest := [.int v1]) ⟨hx, hb, hml, hown, hg⟩ (c_row l o r f a g hF.2.2.1 ) (cwV 0 hg (kgV wt6_149 wt6_150 wt6_151 wt1_14 wt6_152) rfl rfl rfl (by decide +kernel) ⟨by decide, by decide⟩) hK hP hD hS hA 0 12 rfl rfl rfl hl.1 rfl (Nat.le_of_ble_eq_true rfl) dL_law_515 ⟨by decide, by decide⟩ (fun v2 u2 H locs hw2 hP hD hS => ?_)
  refine lv_icmp_eq (tgt := 1128) hx hb dL_law_518 (by decide) (fun c1 => ?_) (fun c1 => absurd (hw1.trans hw2.symm) c1)
  exact law_tail l C0 hS hl (by decide) (by decide)
set_option maxHeartbeats 4000000 in
set_option maxRecDepth 100000 in
theorem law_chaff {p : Program} {e : Env} {s : State} {m : MethodId} {below : List Frame} {meth : Method} {c : Code} (l : Launch) {b : Nat} {xs : Nat → Int32} (C0 : lw_At p s m meth c b 6 xs) {D : va_G} {K : Nat → ClassId} (hK : va_K D vwCl (tysK K) s) (hE : kE K (fun q : Nat => s.heap.size ≤ q) s s.heap) (hT : kT (fun q : Nat => s.heap.size ≤ q) s s.heap) {u : Nat → Nat} {o : Nat} {r : Nat → Nat} {f : Nat → Int32} {a : Nat → Nat → Int32} {g : Nat → Int64} (hF : f 0 = 0 ∧ f 6 = 0 ∧ f 13 = 0 ∧ f 14 = (-1) ∧ f 33 = 0 ∧ f 37 = (-1) ∧ f 45 = (-1) ∧ a 2 22 = 0 ∧ a 2 99 = 30 ∧ a 2 100 = 2 ∧ a 2 101 = 0 ∧ a 2 102 = 0 ∧ a 2 103 = 0 ∧ a 2 104 = 0 ∧ a 2 105 = 0 ∧ a 2 106 = (-1) ∧ a 1 1 = 0 ∧ a 1 2 = 0 ∧ a 1 3 = 0 ∧ a 1 5 = 0 ∧ a 1 6 = 0 ∧ a 4 0 = 0 ∧ a 4 1 = 0) {H : Heap} {locs : List Loc} (hP : va_P D vwCl (xW K u xf0 xa0 xg0 ++ mW K o r f a g) H) (hD : va_D (fun q : Nat => s.heap.size ≤ q) (xW K u xf0 xa0 xg0 ++ mW K o r f a g)) (hS : va_S (fun q : Nat => s.heap.size ≤ q) s.heap H locs) {ls : Array Slot} (hl : lv_has ls 4 [(3, .int 0), (2, .ref o), (1, .ref (u 0)), (0, .ref b)]) : W p l e room_1 s m #[Value.ref b] below meth c H locs 117 26266 (lw_Z below #[Value.ref b] s) (F0 m 523 ls []) := by
  obtain ⟨hx, hb, hr, hml, hown, hts, hX, hbl, hlocks, hgv⟩ := id C0
  have hA : ∀ q : Nat, s.heap.size ≤ q → (fun q : Nat => s.heap.size ≤ q) q := fun _ h => h
  have hbA : ¬ (fun q : Nat => s.heap.size ≤ q) b := Nat.not_le.mpr hbl
  have hg : ∀ w ∈ kG, w.before #[Value.ref b] s = true := fun w h => hts w (kG_in w h)
  have hown : s.vm.findClass RL = some m.cls := hown
  refine lv_aload_n hx hb dL_law_523 rfl (lv_at hl 2 rfl) ?_
  refine kI.callL (As := []) (rest := []) ⟨hx, hb, hml, hown, hg⟩ (x_chaff l u xf0 xa0 xg0 rfl  ) (cwV 0 hg (kgV wt3_145 wt3_146 wt3_147 wt1_1 wt3_148) rfl rfl rfl (by decide +kernel) ⟨by decide, by decide⟩) hK hP hD hS hA 0 11 rfl rfl rfl hl.1 rfl (Nat.le_of_ble_eq_true rfl) dL_law_524 ⟨by decide, by decide⟩ (fun v1 u1 H locs hw1 hP hD hS => ?_)
  refine lv_aload_n hx hb dL_law_527 rfl (lv_at hl 1 rfl) ?_
  refine kI.callW (As := []) (rest := [.int v1]) ⟨hx, hb, hml, hown, hg⟩ (c_chaff l o r f a g hF.2.1 ) (cwV 0 hg (kgV wt6_153 wt6_154 wt6_155 wt1_14 wt6_156) rfl rfl rfl (by decide +kernel) ⟨by decide, by decide⟩) hK hP hD hS hA 0 12 rfl rfl rfl hl.1 rfl (Nat.le_of_ble_eq_true rfl) dL_law_528 ⟨by decide, by decide⟩ (fun v2 u2 H locs hw2 hP hD hS => ?_)
  refine lv_icmp_eq (tgt := 1128) hx hb dL_law_531 (by decide) (fun c1 => ?_) (fun c1 => absurd (hw1.trans hw2.symm) c1)
  exact law_tail l C0 hS hl (by decide) (by decide)
set_option maxHeartbeats 4000000 in
set_option maxRecDepth 100000 in
theorem law_law {p : Program} {e : Env} {s : State} {m : MethodId} {below : List Frame} {meth : Method} {c : Code} (l : Launch) {b : Nat} {xs : Nat → Int32} (C0 : lw_At p s m meth c b 6 xs) {D : va_G} {K : Nat → ClassId} (hK : va_K D vwCl (tysK K) s) (hE : kE K (fun q : Nat => s.heap.size ≤ q) s s.heap) (hT : kT (fun q : Nat => s.heap.size ≤ q) s s.heap) {u : Nat → Nat} {o : Nat} {r : Nat → Nat} {f : Nat → Int32} {a : Nat → Nat → Int32} {g : Nat → Int64} (hF : f 0 = 0 ∧ f 6 = 0 ∧ f 13 = 0 ∧ f 14 = (-1) ∧ f 33 = 0 ∧ f 37 = (-1) ∧ f 45 = (-1) ∧ a 2 22 = 0 ∧ a 2 99 = 30 ∧ a 2 100 = 2 ∧ a 2 101 = 0 ∧ a 2 102 = 0 ∧ a 2 103 = 0 ∧ a 2 104 = 0 ∧ a 2 105 = 0 ∧ a 2 106 = (-1) ∧ a 1 1 = 0 ∧ a 1 2 = 0 ∧ a 1 3 = 0 ∧ a 1 5 = 0 ∧ a 1 6 = 0 ∧ a 4 0 = 0 ∧ a 4 1 = 0) {H : Heap} {locs : List Loc} (hP : va_P D vwCl (xW K u xf0 xa0 xg0 ++ mW K o r f a g) H) (hD : va_D (fun q : Nat => s.heap.size ≤ q) (xW K u xf0 xa0 xg0 ++ mW K o r f a g)) (hS : va_S (fun q : Nat => s.heap.size ≤ q) s.heap H locs) {ls : Array Slot} (hl : lv_has ls 4 [(3, .int 0), (2, .ref o), (1, .ref (u 0)), (0, .ref b)]) : W p l e room_1 s m #[Value.ref b] below meth c H locs 117 26266 (lw_Z below #[Value.ref b] s) (F0 m 536 ls []) := by
  obtain ⟨hx, hb, hr, hml, hown, hts, hX, hbl, hlocks, hgv⟩ := id C0
  have hA : ∀ q : Nat, s.heap.size ≤ q → (fun q : Nat => s.heap.size ≤ q) q := fun _ h => h
  have hbA : ¬ (fun q : Nat => s.heap.size ≤ q) b := Nat.not_le.mpr hbl
  have hg : ∀ w ∈ kG, w.before #[Value.ref b] s = true := fun w h => hts w (kG_in w h)
  have hown : s.vm.findClass RL = some m.cls := hown
  refine lv_aload_n hx hb dL_law_536 rfl (lv_at hl 2 rfl) ?_
  refine kI.callL (As := []) (rest := []) ⟨hx, hb, hml, hown, hg⟩ (x_law l u xf0 xa0 xg0 rfl rfl  ) (cwV 0 hg (kgV wt3_149 wt3_150 wt3_151 wt1_1 wt3_152) rfl rfl rfl (by decide +kernel) ⟨by decide, by decide⟩) hK hP hD hS hA 0 11 rfl rfl rfl hl.1 rfl (Nat.le_of_ble_eq_true rfl) dL_law_537 ⟨by decide, by decide⟩ (fun v1 u1 H locs hw1 hP hD hS => ?_)
  refine lv_aload_n hx hb dL_law_540 rfl (lv_at hl 1 rfl) ?_
  refine kI.callW (As := []) (rest := [.int v1]) ⟨hx, hb, hml, hown, hg⟩ (c_law l o r f a g hF.2.2.1 hF.2.2.2.2.2.2.2.2.2.2.2.2.2.2.1 ) (cwV 0 hg (kgV wt6_165 wt6_166 wt6_167 wt1_14 wt6_168) rfl rfl rfl (by decide +kernel) ⟨by decide, by decide⟩) hK hP hD hS hA 0 12 rfl rfl rfl hl.1 rfl (Nat.le_of_ble_eq_true rfl) dL_law_541 ⟨by decide, by decide⟩ (fun v2 u2 H locs hw2 hP hD hS => ?_)
  refine lv_icmp_eq (tgt := 1128) hx hb dL_law_544 (by decide) (fun c1 => ?_) (fun c1 => absurd (hw1.trans hw2.symm) c1)
  exact law_tail l C0 hS hl (by decide) (by decide)
set_option maxHeartbeats 4000000 in
set_option maxRecDepth 100000 in
theorem law_orders {p : Program} {e : Env} {s : State} {m : MethodId} {below : List Frame} {meth : Method} {c : Code} (l : Launch) {b : Nat} {xs : Nat → Int32} (C0 : lw_At p s m meth c b 6 xs) {D : va_G} {K : Nat → ClassId} (hK : va_K D vwCl (tysK K) s) (hE : kE K (fun q : Nat => s.heap.size ≤ q) s s.heap) (hT : kT (fun q : Nat => s.heap.size ≤ q) s s.heap) {u : Nat → Nat} {o : Nat} {r : Nat → Nat} {f : Nat → Int32} {a : Nat → Nat → Int32} {g : Nat → Int64} (hF : f 0 = 0 ∧ f 6 = 0 ∧ f 13 = 0 ∧ f 14 = (-1) ∧ f 33 = 0 ∧ f 37 = (-1) ∧ f 45 = (-1) ∧ a 2 22 = 0 ∧ a 2 99 = 30 ∧ a 2 100 = 2 ∧ a 2 101 = 0 ∧ a 2 102 = 0 ∧ a 2 103 = 0 ∧ a 2 104 = 0 ∧ a 2 105 = 0 ∧ a 2 106 = (-1) ∧ a 1 1 = 0 ∧ a 1 2 = 0 ∧ a 1 3 = 0 ∧ a 1 5 = 0 ∧ a 1 6 = 0 ∧ a 4 0 = 0 ∧ a 4 1 = 0) {H : Heap} {locs : List Loc} (hP : va_P D vwCl (xW K u xf0 xa0 xg0 ++ mW K o r f a g) H) (hD : va_D (fun q : Nat => s.heap.size ≤ q) (xW K u xf0 xa0 xg0 ++ mW K o r f a g)) (hS : va_S (fun q : Nat => s.heap.size ≤ q) s.heap H locs) {ls : Array Slot} (hl : lv_has ls 4 [(3, .int 0), (2, .ref o), (1, .ref (u 0)), (0, .ref b)]) : W p l e room_1 s m #[Value.ref b] below meth c H locs 117 26266 (lw_Z below #[Value.ref b] s) (F0 m 549 ls []) := by
  obtain ⟨hx, hb, hr, hml, hown, hts, hX, hbl, hlocks, hgv⟩ := id C0
  have hA : ∀ q : Nat, s.heap.size ≤ q → (fun q : Nat => s.heap.size ≤ q) q := fun _ h => h
  have hbA : ¬ (fun q : Nat => s.heap.size ≤ q) b := Nat.not_le.mpr hbl
  have hg : ∀ w ∈ kG, w.before #[Value.ref b] s = true := fun w h => hts w (kG_in w h)
  have hown : s.vm.findClass RL = some m.cls := hown
  refine lv_aload_n hx hb dL_law_549 rfl (lv_at hl 2 rfl) ?_
  refine kI.callL (As := []) (rest := []) ⟨hx, hb, hml, hown, hg⟩ (x_orders l u xf0 xa0 xg0 rfl  ) (cwV 0 hg (kgV wt4_71 wt4_72 wt4_73 wt1_1 wt4_74) rfl rfl rfl (by decide +kernel) ⟨by decide, by decide⟩) hK hP hD hS hA 0 11 rfl rfl rfl hl.1 rfl (Nat.le_of_ble_eq_true rfl) dL_law_550 ⟨by decide, by decide⟩ (fun v1 u1 H locs hw1 hP hD hS => ?_)
  refine lv_aload_n hx hb dL_law_553 rfl (lv_at hl 1 rfl) ?_
  refine kI.callW (As := []) (rest := [.int v1]) ⟨hx, hb, hml, hown, hg⟩ (c_orders l o r f a g hF.2.2.1 ) (cwV 0 hg (kgV wt8_47 wt8_48 wt8_49 wt1_14 wt8_50) rfl rfl rfl (by decide +kernel) ⟨by decide, by decide⟩) hK hP hD hS hA 0 12 rfl rfl rfl hl.1 rfl (Nat.le_of_ble_eq_true rfl) dL_law_554 ⟨by decide, by decide⟩ (fun v2 u2 H locs hw2 hP hD hS => ?_)
  refine lv_icmp_eq (tgt := 1128) hx hb dL_law_557 (by decide) (fun c1 => ?_) (fun c1 => absurd (hw1.trans hw2.symm) c1)
  exact law_tail l C0 hS hl (by decide) (by decide)
set_option maxHeartbeats 4000000 in
set_option maxRecDepth 100000 in
theorem law_fault {p : Program} {e : Env} {s : State} {m : MethodId} {below : List Frame} {meth : Method} {c : Code} (l : Launch) {b : Nat} {xs : Nat → Int32} (C0 : lw_At p s m meth c b 6 xs) {D : va_G} {K : Nat → ClassId} (hK : va_K D vwCl (tysK K) s) (hE : kE K (fun q : Nat => s.heap.size ≤ q) s s.heap) (hT : kT (fun q : Nat => s.heap.size ≤ q) s s.heap) {u : Nat → Nat} {o : Nat} {r : Nat → Nat} {f : Nat → Int32} {a : Nat → Nat → Int32} {g : Nat → Int64} (hF : f 0 = 0 ∧ f 6 = 0 ∧ f 13 = 0 ∧ f 14 = (-1) ∧ f 33 = 0 ∧ f 37 = (-1) ∧ f 45 = (-1) ∧ a 2 22 = 0 ∧ a 2 99 = 30 ∧ a 2 100 = 2 ∧ a 2 101 = 0 ∧ a 2 102 = 0 ∧ a 2 103 = 0 ∧ a 2 104 = 0 ∧ a 2 105 = 0 ∧ a 2 106 = (-1) ∧ a 1 1 = 0 ∧ a 1 2 = 0 ∧ a 1 3 = 0 ∧ a 1 5 = 0 ∧ a 1 6 = 0 ∧ a 4 0 = 0 ∧ a 4 1 = 0) {H : Heap} {locs : List Loc} (hP : va_P D vwCl (xW K u xf0 xa0 xg0 ++ mW K o r f a g) H) (hD : va_D (fun q : Nat => s.heap.size ≤ q) (xW K u xf0 xa0 xg0 ++ mW K o r f a g)) (hS : va_S (fun q : Nat => s.heap.size ≤ q) s.heap H locs) {ls : Array Slot} (hl : lv_has ls 4 [(3, .int 0), (2, .ref o), (1, .ref (u 0)), (0, .ref b)]) : W p l e room_1 s m #[Value.ref b] below meth c H locs 117 26266 (lw_Z below #[Value.ref b] s) (F0 m 562 ls []) := by
  obtain ⟨hx, hb, hr, hml, hown, hts, hX, hbl, hlocks, hgv⟩ := id C0
  have hA : ∀ q : Nat, s.heap.size ≤ q → (fun q : Nat => s.heap.size ≤ q) q := fun _ h => h
  have hbA : ¬ (fun q : Nat => s.heap.size ≤ q) b := Nat.not_le.mpr hbl
  have hg : ∀ w ∈ kG, w.before #[Value.ref b] s = true := fun w h => hts w (kG_in w h)
  have hown : s.vm.findClass RL = some m.cls := hown
  refine lv_aload_n hx hb dL_law_562 rfl (lv_at hl 2 rfl) ?_
  refine kI.callL (As := []) (rest := []) ⟨hx, hb, hml, hown, hg⟩ (x_fault l u xf0 xa0 xg0 rfl  ) (cwV 0 hg (kgV wt4_148 wt4_149 wt4_150 wt1_1 wt4_151) rfl rfl rfl (by decide +kernel) ⟨by decide, by decide⟩) hK hP hD hS hA 0 11 rfl rfl rfl hl.1 rfl (Nat.le_of_ble_eq_true rfl) dL_law_563 ⟨by decide, by decide⟩ (fun v1 u1 H locs hw1 hP hD hS => ?_)
  refine lv_aload_n hx hb dL_law_566 rfl (lv_at hl 1 rfl) ?_
  refine kI.callW (As := []) (rest := [.int v1]) ⟨hx, hb, hml, hown, hg⟩ (c_fault l o r f a g hF.2.2.2.1 ) (cwV 0 hg (kgV wt7_19 wt7_20 wt7_21 wt1_14 wt7_22) rfl rfl rfl (by decide +kernel) ⟨by decide, by decide⟩) hK hP hD hS hA 0 12 rfl rfl rfl hl.1 rfl (Nat.le_of_ble_eq_true rfl) dL_law_567 ⟨by decide, by decide⟩ (fun v2 u2 H locs hw2 hP hD hS => ?_)
  refine lv_icmp_eq (tgt := 1128) hx hb dL_law_570 (by decide) (fun c1 => ?_) (fun c1 => absurd (hw1.trans hw2.symm) c1)
  exact law_tail l C0 hS hl (by decide) (by decide)
set_option maxHeartbeats 4000000 in
set_option maxRecDepth 100000 in
theorem law_stopped {p : Program} {e : Env} {s : State} {m : MethodId} {below : List Frame} {meth : Method} {c : Code} (l : Launch) {b : Nat} {xs : Nat → Int32} (C0 : lw_At p s m meth c b 6 xs) {D : va_G} {K : Nat → ClassId} (hK : va_K D vwCl (tysK K) s) (hE : kE K (fun q : Nat => s.heap.size ≤ q) s s.heap) (hT : kT (fun q : Nat => s.heap.size ≤ q) s s.heap) {u : Nat → Nat} {o : Nat} {r : Nat → Nat} {f : Nat → Int32} {a : Nat → Nat → Int32} {g : Nat → Int64} (hF : f 0 = 0 ∧ f 6 = 0 ∧ f 13 = 0 ∧ f 14 = (-1) ∧ f 33 = 0 ∧ f 37 = (-1) ∧ f 45 = (-1) ∧ a 2 22 = 0 ∧ a 2 99 = 30 ∧ a 2 100 = 2 ∧ a 2 101 = 0 ∧ a 2 102 = 0 ∧ a 2 103 = 0 ∧ a 2 104 = 0 ∧ a 2 105 = 0 ∧ a 2 106 = (-1) ∧ a 1 1 = 0 ∧ a 1 2 = 0 ∧ a 1 3 = 0 ∧ a 1 5 = 0 ∧ a 1 6 = 0 ∧ a 4 0 = 0 ∧ a 4 1 = 0) {H : Heap} {locs : List Loc} (hP : va_P D vwCl (xW K u xf0 xa0 xg0 ++ mW K o r f a g) H) (hD : va_D (fun q : Nat => s.heap.size ≤ q) (xW K u xf0 xa0 xg0 ++ mW K o r f a g)) (hS : va_S (fun q : Nat => s.heap.size ≤ q) s.heap H locs) {ls : Array Slot} (hl : lv_has ls 4 [(3, .int 0), (2, .ref o), (1, .ref (u 0)), (0, .ref b)]) : W p l e room_1 s m #[Value.ref b] below meth c H locs 117 26266 (lw_Z below #[Value.ref b] s) (F0 m 575 ls []) := by
  obtain ⟨hx, hb, hr, hml, hown, hts, hX, hbl, hlocks, hgv⟩ := id C0
  have hA : ∀ q : Nat, s.heap.size ≤ q → (fun q : Nat => s.heap.size ≤ q) q := fun _ h => h
  have hbA : ¬ (fun q : Nat => s.heap.size ≤ q) b := Nat.not_le.mpr hbl
  have hg : ∀ w ∈ kG, w.before #[Value.ref b] s = true := fun w h => hts w (kG_in w h)
  have hown : s.vm.findClass RL = some m.cls := hown
  refine lv_aload_n hx hb dL_law_575 rfl (lv_at hl 2 rfl) ?_
  refine kI.callL (As := []) (rest := []) ⟨hx, hb, hml, hown, hg⟩ (x_stopped l u xf0 xa0 xg0 rfl  ) (cwV 0 hg (kgV wt4_152 wt4_153 wt4_154 wt1_1 wt4_155) rfl rfl rfl (by decide +kernel) ⟨by decide, by decide⟩) hK hP hD hS hA 0 11 rfl rfl rfl hl.1 rfl (Nat.le_of_ble_eq_true rfl) dL_law_576 ⟨by decide, by decide⟩ (fun v1 u1 H locs hw1 hP hD hS => ?_)
  refine lv_aload_n hx hb dL_law_579 rfl (lv_at hl 1 rfl) ?_
  refine kI.callW (As := []) (rest := [.int v1]) ⟨hx, hb, hml, hown, hg⟩ (c_stopped l o r f a g hF.2.2.2.2.2.1 ) (cwV 0 hg (kgV wt8_43 wt8_44 wt8_45 wt1_14 wt8_46) rfl rfl rfl (by decide +kernel) ⟨by decide, by decide⟩) hK hP hD hS hA 0 12 rfl rfl rfl hl.1 rfl (Nat.le_of_ble_eq_true rfl) dL_law_580 ⟨by decide, by decide⟩ (fun v2 u2 H locs hw2 hP hD hS => ?_)
  refine lv_icmp_eq (tgt := 1128) hx hb dL_law_583 (by decide) (fun c1 => ?_) (fun c1 => absurd (hw1.trans hw2.symm) c1)
  exact law_tail l C0 hS hl (by decide) (by decide)
set_option maxHeartbeats 4000000 in
set_option maxRecDepth 100000 in
theorem law_force {p : Program} {e : Env} {s : State} {m : MethodId} {below : List Frame} {meth : Method} {c : Code} (l : Launch) {b : Nat} {xs : Nat → Int32} (C0 : lw_At p s m meth c b 6 xs) {D : va_G} {K : Nat → ClassId} (hK : va_K D vwCl (tysK K) s) (hE : kE K (fun q : Nat => s.heap.size ≤ q) s s.heap) (hT : kT (fun q : Nat => s.heap.size ≤ q) s s.heap) {u : Nat → Nat} {o : Nat} {r : Nat → Nat} {f : Nat → Int32} {a : Nat → Nat → Int32} {g : Nat → Int64} (hF : f 0 = 0 ∧ f 6 = 0 ∧ f 13 = 0 ∧ f 14 = (-1) ∧ f 33 = 0 ∧ f 37 = (-1) ∧ f 45 = (-1) ∧ a 2 22 = 0 ∧ a 2 99 = 30 ∧ a 2 100 = 2 ∧ a 2 101 = 0 ∧ a 2 102 = 0 ∧ a 2 103 = 0 ∧ a 2 104 = 0 ∧ a 2 105 = 0 ∧ a 2 106 = (-1) ∧ a 1 1 = 0 ∧ a 1 2 = 0 ∧ a 1 3 = 0 ∧ a 1 5 = 0 ∧ a 1 6 = 0 ∧ a 4 0 = 0 ∧ a 4 1 = 0) {H : Heap} {locs : List Loc} (hP : va_P D vwCl (xW K u xf0 xa0 xg0 ++ mW K o r f a g) H) (hD : va_D (fun q : Nat => s.heap.size ≤ q) (xW K u xf0 xa0 xg0 ++ mW K o r f a g)) (hS : va_S (fun q : Nat => s.heap.size ≤ q) s.heap H locs) {ls : Array Slot} (hl : lv_has ls 4 [(3, .int 0), (2, .ref o), (1, .ref (u 0)), (0, .ref b)]) : W p l e room_1 s m #[Value.ref b] below meth c H locs 117 26266 (lw_Z below #[Value.ref b] s) (F0 m 588 ls []) := by
  obtain ⟨hx, hb, hr, hml, hown, hts, hX, hbl, hlocks, hgv⟩ := id C0
  have hA : ∀ q : Nat, s.heap.size ≤ q → (fun q : Nat => s.heap.size ≤ q) q := fun _ h => h
  have hbA : ¬ (fun q : Nat => s.heap.size ≤ q) b := Nat.not_le.mpr hbl
  have hg : ∀ w ∈ kG, w.before #[Value.ref b] s = true := fun w h => hts w (kG_in w h)
  have hown : s.vm.findClass RL = some m.cls := hown
  refine lv_aload_n hx hb dL_law_588 rfl (lv_at hl 2 rfl) ?_
  refine lv_aload_n hx hb dL_law_589 rfl (lv_at hl 3 rfl) ?_
  refine lv_iload_n hx hb dL_law_590 rfl (lv_at hl 0 rfl) ?_
  refine lv_iconst (v := 1) hx hb dL_law_591 (by decide) ?_
  refine lv_iadd hx hb dL_law_592 ?_
  refine k_top (z := 1) (by decide +kernel) ?_
  refine va_sld hx hb hX hbl hbA hS (k_in (by decide +kernel)) dL_law_593 ?_
  refine k_top (z := xs 1) (by rw [cl_1]) ?_
  refine kI.callL (As := [.int (xs 1)]) (rest := []) ⟨hx, hb, hml, hown, hg⟩ (x_force l u xf0 xa0 xg0 rfl rfl (xs 1) ) (cwV 1 hg (kgV wt4_156 wt4_157 wt4_158 wt1_1 wt4_159) rfl rfl rfl (by decide +kernel) ⟨by decide, by decide⟩) hK hP hD hS hA 0 11 rfl rfl rfl hl.1 rfl (Nat.le_of_ble_eq_true rfl) dL_law_594 ⟨by decide, by decide⟩ (fun v1 u1 H locs hw1 hP hD hS => ?_)
  refine lv_aload_n hx hb dL_law_597 rfl (lv_at hl 1 rfl) ?_
  refine lv_aload_n hx hb dL_law_598 rfl (lv_at hl 3 rfl) ?_
  refine lv_iload_n hx hb dL_law_599 rfl (lv_at hl 0 rfl) ?_
  refine lv_iconst (v := 1) hx hb dL_law_600 (by decide) ?_
  refine lv_iadd hx hb dL_law_601 ?_
  refine k_top (z := 1) (by decide +kernel) ?_
  refine va_sld hx hb hX hbl hbA hS (k_in (by decide +kernel)) dL_law_602 ?_
  refine k_top (z := xs 1) (by rw [cl_1]) ?_
  refine kI.callW (As := [.int (xs 1)]) (rest := [.int v1]) ⟨hx, hb, hml, hown, hg⟩ (c_force l o r f a g hF.2.2.2.2.2.2.2.2.2.2.2.2.2.2.1 hF.2.2.2.2.2.2.2.2.2.2.2.2.2.2.2.1 (xs 1)) (cwV 1 hg (kgV wt7_23 wt7_24 wt7_25 wt1_14 wt7_26) rfl rfl rfl (by decide +kernel) ⟨by decide, by decide⟩) hK hP hD hS hA 0 12 rfl rfl rfl hl.1 rfl (Nat.le_of_ble_eq_true rfl) dL_law_603 ⟨by decide, by decide⟩ (fun v2 u2 H locs hw2 hP hD hS => ?_)
  refine lv_icmp_eq (tgt := 1128) hx hb dL_law_606 (by decide) (fun c1 => ?_) (fun c1 => absurd (hw1.trans ((q_force (xs 1)).trans hw2.symm)) c1)
  exact law_tail l C0 hS hl (by decide) (by decide)
set_option maxHeartbeats 4000000 in
set_option maxRecDepth 100000 in
theorem law_stands {p : Program} {e : Env} {s : State} {m : MethodId} {below : List Frame} {meth : Method} {c : Code} (l : Launch) {b : Nat} {xs : Nat → Int32} (C0 : lw_At p s m meth c b 6 xs) {D : va_G} {K : Nat → ClassId} (hK : va_K D vwCl (tysK K) s) (hE : kE K (fun q : Nat => s.heap.size ≤ q) s s.heap) (hT : kT (fun q : Nat => s.heap.size ≤ q) s s.heap) {u : Nat → Nat} {o : Nat} {r : Nat → Nat} {f : Nat → Int32} {a : Nat → Nat → Int32} {g : Nat → Int64} (hF : f 0 = 0 ∧ f 6 = 0 ∧ f 13 = 0 ∧ f 14 = (-1) ∧ f 33 = 0 ∧ f 37 = (-1) ∧ f 45 = (-1) ∧ a 2 22 = 0 ∧ a 2 99 = 30 ∧ a 2 100 = 2 ∧ a 2 101 = 0 ∧ a 2 102 = 0 ∧ a 2 103 = 0 ∧ a 2 104 = 0 ∧ a 2 105 = 0 ∧ a 2 106 = (-1) ∧ a 1 1 = 0 ∧ a 1 2 = 0 ∧ a 1 3 = 0 ∧ a 1 5 = 0 ∧ a 1 6 = 0 ∧ a 4 0 = 0 ∧ a 4 1 = 0) {H : Heap} {locs : List Loc} (hP : va_P D vwCl (xW K u xf0 xa0 xg0 ++ mW K o r f a g) H) (hD : va_D (fun q : Nat => s.heap.size ≤ q) (xW K u xf0 xa0 xg0 ++ mW K o r f a g)) (hS : va_S (fun q : Nat => s.heap.size ≤ q) s.heap H locs) {ls : Array Slot} (hl : lv_has ls 4 [(3, .int 0), (2, .ref o), (1, .ref (u 0)), (0, .ref b)]) : W p l e room_1 s m #[Value.ref b] below meth c H locs 117 26266 (lw_Z below #[Value.ref b] s) (F0 m 611 ls []) := by
  obtain ⟨hx, hb, hr, hml, hown, hts, hX, hbl, hlocks, hgv⟩ := id C0
  have hA : ∀ q : Nat, s.heap.size ≤ q → (fun q : Nat => s.heap.size ≤ q) q := fun _ h => h
  have hbA : ¬ (fun q : Nat => s.heap.size ≤ q) b := Nat.not_le.mpr hbl
  have hg : ∀ w ∈ kG, w.before #[Value.ref b] s = true := fun w h => hts w (kG_in w h)
  have hown : s.vm.findClass RL = some m.cls := hown
  refine lv_aload_n hx hb dL_law_611 rfl (lv_at hl 2 rfl) ?_
  refine lv_aload_n hx hb dL_law_612 rfl (lv_at hl 3 rfl) ?_
  refine lv_iload_n hx hb dL_law_613 rfl (lv_at hl 0 rfl) ?_
  refine lv_iconst (v := 1) hx hb dL_law_614 (by decide) ?_
  refine lv_iadd hx hb dL_law_615 ?_
  refine k_top (z := 1) (by decide +kernel) ?_
  refine va_sld hx hb hX hbl hbA hS (k_in (by decide +kernel)) dL_law_616 ?_
  refine k_top (z := xs 1) (by rw [cl_1]) ?_
  refine kI.callL (As := [.int (xs 1)]) (rest := []) ⟨hx, hb, hml, hown, hg⟩ (x_stands l u xf0 xa0 xg0 rfl (xs 1) ) (cwV 1 hg (kgV wt4_160 wt4_161 wt4_162 wt1_1 wt4_163) rfl rfl rfl (by decide +kernel) ⟨by decide, by decide⟩) hK hP hD hS hA 0 11 rfl rfl rfl hl.1 rfl (Nat.le_of_ble_eq_true rfl) dL_law_617 ⟨by decide, by decide⟩ (fun v1 u1 H locs hw1 hP hD hS => ?_)
  refine lv_aload_n hx hb dL_law_620 rfl (lv_at hl 1 rfl) ?_
  refine lv_aload_n hx hb dL_law_621 rfl (lv_at hl 3 rfl) ?_
  refine lv_iload_n hx hb dL_law_622 rfl (lv_at hl 0 rfl) ?_
  refine lv_iconst (v := 1) hx hb dL_law_623 (by decide) ?_
  refine lv_iadd hx hb dL_law_624 ?_
  refine k_top (z := 1) (by decide +kernel) ?_
  refine va_sld hx hb hX hbl hbA hS (k_in (by decide +kernel)) dL_law_625 ?_
  refine k_top (z := xs 1) (by rw [cl_1]) ?_
  refine kI.callW (As := [.int (xs 1)]) (rest := [.int v1]) ⟨hx, hb, hml, hown, hg⟩ (c_stands l o r f a g hF.2.2.2.2.2.2.2.2.2.2.2.1 (xs 1)) (cwV 1 hg (kgV wt7_108 wt7_109 wt7_110 wt1_14 wt7_111) rfl rfl rfl (by decide +kernel) ⟨by decide, by decide⟩) hK hP hD hS hA 0 12 rfl rfl rfl hl.1 rfl (Nat.le_of_ble_eq_true rfl) dL_law_626 ⟨by decide, by decide⟩ (fun v2 u2 H locs hw2 hP hD hS => ?_)
  refine lv_icmp_eq (tgt := 1128) hx hb dL_law_629 (by decide) (fun c1 => ?_) (fun c1 => absurd (hw1.trans ((q_two' (xs 1) _ _).trans hw2.symm)) c1)
  exact law_tail l C0 hS hl (by decide) (by decide)
set_option maxHeartbeats 4000000 in
set_option maxRecDepth 100000 in
theorem law_send {p : Program} {e : Env} {s : State} {m : MethodId} {below : List Frame} {meth : Method} {c : Code} (l : Launch) {b : Nat} {xs : Nat → Int32} (C0 : lw_At p s m meth c b 6 xs) {D : va_G} {K : Nat → ClassId} (hK : va_K D vwCl (tysK K) s) (hE : kE K (fun q : Nat => s.heap.size ≤ q) s s.heap) (hT : kT (fun q : Nat => s.heap.size ≤ q) s s.heap) {u : Nat → Nat} {o : Nat} {r : Nat → Nat} {f : Nat → Int32} {a : Nat → Nat → Int32} {g : Nat → Int64} (hF : f 0 = 0 ∧ f 6 = 0 ∧ f 13 = 0 ∧ f 14 = (-1) ∧ f 33 = 0 ∧ f 37 = (-1) ∧ f 45 = (-1) ∧ a 2 22 = 0 ∧ a 2 99 = 30 ∧ a 2 100 = 2 ∧ a 2 101 = 0 ∧ a 2 102 = 0 ∧ a 2 103 = 0 ∧ a 2 104 = 0 ∧ a 2 105 = 0 ∧ a 2 106 = (-1) ∧ a 1 1 = 0 ∧ a 1 2 = 0 ∧ a 1 3 = 0 ∧ a 1 5 = 0 ∧ a 1 6 = 0 ∧ a 4 0 = 0 ∧ a 4 1 = 0) {H : Heap} {locs : List Loc} (hP : va_P D vwCl (xW K u xf0 xa0 xg0 ++ mW K o r f a g) H) (hD : va_D (fun q : Nat => s.heap.size ≤ q) (xW K u xf0 xa0 xg0 ++ mW K o r f a g)) (hS : va_S (fun q : Nat => s.heap.size ≤ q) s.heap H locs) {ls : Array Slot} (hl : lv_has ls 4 [(3, .int 0), (2, .ref o), (1, .ref (u 0)), (0, .ref b)]) : W p l e room_1 s m #[Value.ref b] below meth c H locs 117 26266 (lw_Z below #[Value.ref b] s) (F0 m 634 ls []) := by
  obtain ⟨hx, hb, hr, hml, hown, hts, hX, hbl, hlocks, hgv⟩ := id C0
  have hA : ∀ q : Nat, s.heap.size ≤ q → (fun q : Nat => s.heap.size ≤ q) q := fun _ h => h
  have hbA : ¬ (fun q : Nat => s.heap.size ≤ q) b := Nat.not_le.mpr hbl
  have hg : ∀ w ∈ kG, w.before #[Value.ref b] s = true := fun w h => hts w (kG_in w h)
  have hown : s.vm.findClass RL = some m.cls := hown
  refine lv_aload_n hx hb dL_law_634 rfl (lv_at hl 2 rfl) ?_
  refine lv_aload_n hx hb dL_law_635 rfl (lv_at hl 3 rfl) ?_
  refine lv_iload_n hx hb dL_law_636 rfl (lv_at hl 0 rfl) ?_
  refine lv_iconst (v := 1) hx hb dL_law_637 (by decide) ?_
  refine lv_iadd hx hb dL_law_638 ?_
  refine k_top (z := 1) (by decide +kernel) ?_
  refine va_sld hx hb hX hbl hbA hS (k_in (by decide +kernel)) dL_law_639 ?_
  refine k_top (z := xs 1) (by rw [cl_1]) ?_
  refine lv_aload_n hx hb dL_law_640 rfl (lv_at hl 3 rfl) ?_
  refine lv_iload_n hx hb dL_law_641 rfl (lv_at hl 0 rfl) ?_
  refine lv_iconst (v := 2) hx hb dL_law_642 (by decide) ?_
  refine lv_iadd hx hb dL_law_643 ?_
  refine k_top (z := 2) (by decide +kernel) ?_
  refine va_sld hx hb hX hbl hbA hS (k_in (by decide +kernel)) dL_law_644 ?_
  refine k_top (z := xs 2) (by rw [cl_2]) ?_
  refine kI.callL (As := [.int (xs 1), .int (xs 2)]) (rest := []) ⟨hx, hb, hml, hown, hg⟩ (x_send l u xf0 xa0 xg0 rfl (xs 1) (xs 2) ) (cwV 2 hg (kgV wt4_165 wt4_166 wt4_167 wt1_1 wt4_168) rfl rfl rfl (by decide +kernel) ⟨by decide, by decide⟩) hK hP hD hS hA 0 11 rfl rfl rfl hl.1 rfl (Nat.le_of_ble_eq_true rfl) dL_law_645 ⟨by decide, by decide⟩ (fun v1 u1 H locs hw1 hP hD hS => ?_)
  refine lv_aload_n hx hb dL_law_648 rfl (lv_at hl 1 rfl) ?_
  refine lv_aload_n hx hb dL_law_649 rfl (lv_at hl 3 rfl) ?_
  refine lv_iload_n hx hb dL_law_650 rfl (lv_at hl 0 rfl) ?_
  refine lv_iconst (v := 1) hx hb dL_law_651 (by decide) ?_
  refine lv_iadd hx hb dL_law_652 ?_
  refine k_top (z := 1) (by decide +kernel) ?_
  refine va_sld hx hb hX hbl hbA hS (k_in (by decide +kernel)) dL_law_653 ?_
  refine k_top (z := xs 1) (by rw [cl_1]) ?_
  refine lv_aload_n hx hb dL_law_654 rfl (lv_at hl 3 rfl) ?_
  refine lv_iload_n hx hb dL_law_655 rfl (lv_at hl 0 rfl) ?_
  refine lv_iconst (v := 2) hx hb dL_law_656 (by decide) ?_
  refine lv_iadd hx hb dL_law_657 ?_
  refine k_top (z := 2) (by decide +kernel) ?_
  refine va_sld hx hb hX hbl hbA hS (k_in (by decide +kernel)) dL_law_658 ?_
  refine k_top (z := xs 2) (by rw [cl_2]) ?_
  refine kI.callW (As := [.int (xs 1), .int (xs 2)]) (rest := [.int v1]) ⟨hx, hb, hml, hown, hg⟩ (c_send l o r f a g hF.2.2.2.2.2.2.2.2.2.2.2.2.1 (xs 1) (xs 2)) (cwV 2 hg (kgV wt7_116 wt7_117 wt7_118 wt1_14 wt7_119) rfl rfl rfl (by decide +kernel) ⟨by decide, by decide⟩) hK hP hD hS hA 0 12 rfl rfl rfl hl.1 rfl (Nat.le_of_ble_eq_true rfl) dL_law_659 ⟨by decide, by decide⟩ (fun v2 u2 H locs hw2 hP hD hS => ?_)
  refine lv_icmp_eq (tgt := 1128) hx hb dL_law_662 (by decide) (fun c1 => ?_) (fun c1 => absurd (hw1.trans hw2.symm) c1)
  exact law_tail l C0 hS hl (by decide) (by decide)
set_option maxHeartbeats 4000000 in
set_option maxRecDepth 100000 in
theorem law_rest {p : Program} {e : Env} {s : State} {m : MethodId} {below : List Frame} {meth : Method} {c : Code} (l : Launch) {b : Nat} {xs : Nat → Int32} (C0 : lw_At p s m meth c b 6 xs) {D : va_G} {K : Nat → ClassId} (hK : va_K D vwCl (tysK K) s) (hE : kE K (fun q : Nat => s.heap.size ≤ q) s s.heap) (hT : kT (fun q : Nat => s.heap.size ≤ q) s s.heap) {u : Nat → Nat} {o : Nat} {r : Nat → Nat} {f : Nat → Int32} {a : Nat → Nat → Int32} {g : Nat → Int64} (hF : f 0 = 0 ∧ f 6 = 0 ∧ f 13 = 0 ∧ f 14 = (-1) ∧ f 33 = 0 ∧ f 37 = (-1) ∧ f 45 = (-1) ∧ a 2 22 = 0 ∧ a 2 99 = 30 ∧ a 2 100 = 2 ∧ a 2 101 = 0 ∧ a 2 102 = 0 ∧ a 2 103 = 0 ∧ a 2 104 = 0 ∧ a 2 105 = 0 ∧ a 2 106 = (-1) ∧ a 1 1 = 0 ∧ a 1 2 = 0 ∧ a 1 3 = 0 ∧ a 1 5 = 0 ∧ a 1 6 = 0 ∧ a 4 0 = 0 ∧ a 4 1 = 0) {H : Heap} {locs : List Loc} (hP : va_P D vwCl (xW K u xf0 xa0 xg0 ++ mW K o r f a g) H) (hD : va_D (fun q : Nat => s.heap.size ≤ q) (xW K u xf0 xa0 xg0 ++ mW K o r f a g)) (hS : va_S (fun q : Nat => s.heap.size ≤ q) s.heap H locs) {ls : Array Slot} (hl : lv_has ls 4 [(3, .int 0), (2, .ref o), (1, .ref (u 0)), (0, .ref b)]) : W p l e room_1 s m #[Value.ref b] below meth c H locs 117 26266 (lw_Z below #[Value.ref b] s) (F0 m 667 ls []) := by
  obtain ⟨hx, hb, hr, hml, hown, hts, hX, hbl, hlocks, hgv⟩ := id C0
  have hA : ∀ q : Nat, s.heap.size ≤ q → (fun q : Nat => s.heap.size ≤ q) q := fun _ h => h
  have hbA : ¬ (fun q : Nat => s.heap.size ≤ q) b := Nat.not_le.mpr hbl
  have hg : ∀ w ∈ kG, w.before #[Value.ref b] s = true := fun w h => hts w (kG_in w h)
  have hown : s.vm.findClass RL = some m.cls := hown
  refine lv_aload_n hx hb dL_law_667 rfl (lv_at hl 2 rfl) ?_
  refine lv_aload_n hx hb dL_law_668 rfl (lv_at hl 3 rfl) ?_
  refine lv_iload_n hx hb dL_law_669 rfl (lv_at hl 0 rfl) ?_
  refine lv_iconst (v := 1) hx hb dL_law_670 (by decide) ?_
  refine lv_iadd hx hb dL_law_671 ?_
  refine k_top (z := 1) (by decide +kernel) ?_
  refine va_sld hx hb hX hbl hbA hS (k_in (by decide +kernel)) dL_law_672 ?_
  refine k_top (z := xs 1) (by rw [cl_1]) ?_
  refine kI.callL (As := [.int (xs 1)]) (rest := []) ⟨hx, hb, hml, hown, hg⟩ (x_rest l u xf0 xa0 xg0 rfl (xs 1) ) (cwV 1 hg (kgV wt4_174 wt4_175 wt4_176 wt1_1 wt4_177) rfl rfl rfl (by decide +kernel) ⟨by decide, by decide⟩) hK hP hD hS hA 0 11 rfl rfl rfl hl.1 rfl (Nat.le_of_ble_eq_true rfl) dL_law_673 ⟨by decide, by decide⟩ (fun v1 u1 H locs hw1 hP hD hS => ?_)
  refine lv_aload_n hx hb dL_law_676 rfl (lv_at hl 1 rfl) ?_
  refine lv_aload_n hx hb dL_law_677 rfl (lv_at hl 3 rfl) ?_
  refine lv_iload_n hx hb dL_law_678 rfl (lv_at hl 0 rfl) ?_
  refine lv_iconst (v := 1) hx hb dL_law_679 (by decide) ?_
  refine lv_iadd hx hb dL_law_680 ?_
  refine k_top (z := 1) (by decide +kernel) ?_
  refine va_sld hx hb hX hbl hbA hS (k_in (by decide +kernel)) dL_law_681 ?_
  refine k_top (z := xs 1) (by rw [cl_1]) ?_
  refine kI.callW (As := [.int (xs 1)]) (rest := [.int v1]) ⟨hx, hb, hml, hown, hg⟩ (c_rest l o r f a g hF.2.2.2.2.2.2.2.2.2.2.2.2.1 (xs 1)) (cwV 1 hg (kgV wt7_132 wt7_133 wt7_134 wt1_14 wt7_135) rfl rfl rfl (by decide +kernel) ⟨by decide, by decide⟩) hK hP hD hS hA 0 12 rfl rfl rfl hl.1 rfl (Nat.le_of_ble_eq_true rfl) dL_law_682 ⟨by decide, by decide⟩ (fun v2 u2 H locs hw2 hP hD hS => ?_)
  refine lv_icmp_eq (tgt := 1128) hx hb dL_law_685 (by decide) (fun c1 => ?_) (fun c1 => absurd (hw1.trans hw2.symm) c1)
  exact law_tail l C0 hS hl (by decide) (by decide)
