section SB
variable {o q n : Nat} {f f' : Nat → Int32} {a a' : Nat → Nat → Int32} {k : Nat → Int32} {x y z w v : Int32}
theorem bldK_n (hn : n < 6) {i : Nat} (h0 : ¬ i = 103) (h1 : ¬ i = 16 + n) (h2 : ¬ i = 10 + n) (h3 : ¬ i = 69 + n) (h4 : ¬ i = 63 + n) : bldK k n x y i = k i := by
  unfold bldK
  rw [if_neg h0, if_neg h1, if_neg h2, if_neg h3, if_neg h4]
theorem sV_bld (h : sV o q f a k) (hn : n < 6) (hk3 : (k 103).toInt = (n : Int)) (f1 : f' (o + 6) = k 103 + 1) (f0 : f' o = f o) (f3 : f' (o + 12) = f (o + 12)) (f4 : f' (o + 17) = f (o + 17)) (f5 : f' (o + 18) = f (o + 18)) (e5 : a' (q + 5) = upd (a (q + 5)) n x) (e6 : a' (q + 6) = upd (a (q + 6)) n y) (e7 : a' (q + 7) = upd (a (q + 7)) n 0) (e8 : a' (q + 8) = upd (a (q + 8)) n (-1)) (hr : ∀ j, j < 13 → j < 5 ∨ 9 ≤ j → a' (q + j) = a (q + j)) : sV o q f' a' (bldK k n x y) := by
  have E : ∀ i, ¬ i = 103 → ¬ i = 16 + n → ¬ i = 10 + n → ¬ i = 69 + n → ¬ i = 63 + n → bldK k n x y i = k i := fun i b0 b1 b2 b3 b4 => bldK_n hn b0 b1 b2 b3 b4
  have r0 : a' q = a q := hr 0 (by decide) (Or.inl (by decide))
  have e1 : (1 : Int32).toInt = 1 := by decide +kernel
  have e3 : (k 103 + 1).toInt = (n : Int) + 1 := by
    rw [kt_add (l1 := 0) (h1 := 6) (l2 := 1) (h2 := 1) ⟨by omega, by omega⟩ ⟨by rw [e1]; decide, by rw [e1]; decide⟩ (by decide) (by decide), e1, hk3]
  refine ⟨⟨?_, ?_, ?_, ?_, ?_⟩, fun i hi => ⟨?_, ?_, ?_, ?_, ?_⟩, fun i hi => ⟨?_, ?_, ?_, fun hb => ?_⟩, ⟨?_, ?_, ?_, ?_⟩, fun i hi => ⟨?_, ?_, ?_⟩⟩
  · rw [f0, E 102 (by omega) (by omega) (by omega) (by omega) (by omega)]; exact sv_parts h
  · rw [f1]; unfold bldK; rw [if_pos rfl]
  · rw [f3, E 104 (by omega) (by omega) (by omega) (by omega) (by omega)]; exact sv_sights h
  · rw [f4, E 105 (by omega) (by omega) (by omega) (by omega) (by omega)]; exact sv_lawCount h
  · rw [f5, E 106 (by omega) (by omega) (by omega) (by omega) (by omega)]; exact sv_inForce h
  · rw [r0, E (23 + i) (by omega) (by omega) (by omega) (by omega) (by omega)]; exact sv_work h hi
  · rw [hr 1 (by decide) (Or.inl (by decide)), E (33 + i) (by omega) (by omega) (by omega) (by omega) (by omega)]; exact sv_needs h hi
  · rw [hr 2 (by decide) (Or.inl (by decide)), E (43 + i) (by omega) (by omega) (by omega) (by omega) (by omega)]; exact sv_craft h hi
  · rw [hr 3 (by decide) (Or.inl (by decide)), E (53 + i) (by omega) (by omega) (by omega) (by omega) (by omega)]; exact sv_heavy h hi
  · rw [hr 4 (by decide) (Or.inl (by decide)), E (0 + i) (by omega) (by omega) (by omega) (by omega) (by omega)]; exact sv_left h hi
  · rw [e5]
    by_cases c : i = n
    · rw [c, pk_us]; unfold bldK; rw [if_neg (by omega), if_neg (by omega), if_neg (by omega), if_neg (by omega), if_pos rfl]
    · rw [pk_un c, E (63 + i) (by omega) (by omega) (by omega) (by omega) (by omega)]; exact sv_crafts h hi
  · rw [e6]
    by_cases c : i = n
    · rw [c, pk_us]; unfold bldK; rw [if_neg (by omega), if_neg (by omega), if_neg (by omega), if_pos rfl]
    · rw [pk_un c, E (69 + i) (by omega) (by omega) (by omega) (by omega) (by omega)]; exact sv_pace h hi
  · rw [e7]
    by_cases c : i = n
    · rw [c, pk_us]; unfold bldK; rw [if_neg (by omega), if_neg (by omega), if_pos rfl]
    · rw [pk_un c, E (10 + i) (by omega) (by omega) (by omega) (by omega) (by omega)]; exact sv_tired h hi
  · rw [e8]
    by_cases c : i = n
    · rw [c, pk_us]; unfold bldK; rw [if_neg (by omega), if_pos rfl]
    · have hb2 : (i : Int) < (k 103 + 1).toInt := by unfold bldK at hb; rw [if_pos rfl] at hb; exact hb
      rw [pk_un c, E (16 + i) (by omega) (by omega) (by omega) (by omega) (by omega)]; exact sv_place h hi (by omega)
  · rw [hr 9 (by decide) (Or.inr (by decide)), E 22 (by omega) (by omega) (by omega) (by omega) (by omega)]; exact sv_hour h
  · rw [hr 9 (by decide) (Or.inr (by decide)), E 99 (by omega) (by omega) (by omega) (by omega) (by omega)]; exact sv_night h
  · rw [hr 9 (by decide) (Or.inr (by decide)), E 100 (by omega) (by omega) (by omega) (by omega) (by omega)]; exact sv_rain h
  · rw [hr 9 (by decide) (Or.inr (by decide)), E 101 (by omega) (by omega) (by omega) (by omega) (by omega)]; exact sv_mood h
  · rw [hr 10 (by decide) (Or.inr (by decide)), E (75 + 3 * i) (by omega) (by omega) (by omega) (by omega) (by omega)]; exact sv_sTick h hi
  · rw [hr 11 (by decide) (Or.inr (by decide)), E (76 + 3 * i) (by omega) (by omega) (by omega) (by omega) (by omega)]; exact sv_sPart h hi
  · rw [hr 12 (by decide) (Or.inr (by decide)), E (77 + 3 * i) (by omega) (by omega) (by omega) (by omega) (by omega)]; exact sv_sStood h hi
theorem sgtK_n (hn : n < 8) {i : Nat} (h0 : ¬ i = 104) (h1 : ¬ i = 77 + 3 * n) (h2 : ¬ i = 76 + 3 * n) (h3 : ¬ i = 75 + 3 * n) : sgtK k n x y z i = k i := by
  unfold sgtK
  rw [if_neg h0, if_neg h1, if_neg h2, if_neg h3]
theorem sV_sgt (h : sV o q f a k) (hn : n < 8) (f1 : f' (o + 12) = k 104 + 1) (f0 : f' o = f o) (f2 : f' (o + 6) = f (o + 6)) (f4 : f' (o + 17) = f (o + 17)) (f5 : f' (o + 18) = f (o + 18)) (e5 : a' (q + 10) = upd (a (q + 10)) n x) (e6 : a' (q + 11) = upd (a (q + 11)) n y) (e7 : a' (q + 12) = upd (a (q + 12)) n z) (hr : ∀ j, j < 10 → a' (q + j) = a (q + j)) : sV o q f' a' (sgtK k n x y z) := by
  have E : ∀ i, ¬ i = 104 → ¬ i = 77 + 3 * n → ¬ i = 76 + 3 * n → ¬ i = 75 + 3 * n → sgtK k n x y z i = k i := fun i b0 b1 b2 b3 => sgtK_n hn b0 b1 b2 b3
  have r0 : a' q = a q := hr 0 (by decide)
  refine ⟨⟨?_, ?_, ?_, ?_, ?_⟩, fun i hi => ⟨?_, ?_, ?_, ?_, ?_⟩, fun i hi => ⟨?_, ?_, ?_, fun hb => ?_⟩, ⟨?_, ?_, ?_, ?_⟩, fun i hi => ⟨?_, ?_, ?_⟩⟩
  · rw [f0, E 102 (by omega) (by omega) (by omega) (by omega)]; exact sv_parts h
  · rw [f2, E 103 (by omega) (by omega) (by omega) (by omega)]; exact sv_builders h
  · rw [f1]; unfold sgtK; rw [if_pos rfl]
  · rw [f4, E 105 (by omega) (by omega) (by omega) (by omega)]; exact sv_lawCount h
  · rw [f5, E 106 (by omega) (by omega) (by omega) (by omega)]; exact sv_inForce h
  · rw [r0, E (23 + i) (by omega) (by omega) (by omega) (by omega)]; exact sv_work h hi
  · rw [hr 1 (by decide), E (33 + i) (by omega) (by omega) (by omega) (by omega)]; exact sv_needs h hi
  · rw [hr 2 (by decide), E (43 + i) (by omega) (by omega) (by omega) (by omega)]; exact sv_craft h hi
  · rw [hr 3 (by decide), E (53 + i) (by omega) (by omega) (by omega) (by omega)]; exact sv_heavy h hi
  · rw [hr 4 (by decide), E (0 + i) (by omega) (by omega) (by omega) (by omega)]; exact sv_left h hi
  · rw [hr 5 (by decide), E (63 + i) (by omega) (by omega) (by omega) (by omega)]; exact sv_crafts h hi
  · rw [hr 6 (by decide), E (69 + i) (by omega) (by omega) (by omega) (by omega)]; exact sv_pace h hi
  · rw [hr 7 (by decide), E (10 + i) (by omega) (by omega) (by omega) (by omega)]; exact sv_tired h hi
  · rw [E 103 (by omega) (by omega) (by omega) (by omega)] at hb
    rw [hr 8 (by decide), E (16 + i) (by omega) (by omega) (by omega) (by omega)]; exact sv_place h hi hb
  · rw [hr 9 (by decide), E 22 (by omega) (by omega) (by omega) (by omega)]; exact sv_hour h
  · rw [hr 9 (by decide), E 99 (by omega) (by omega) (by omega) (by omega)]; exact sv_night h
  · rw [hr 9 (by decide), E 100 (by omega) (by omega) (by omega) (by omega)]; exact sv_rain h
  · rw [hr 9 (by decide), E 101 (by omega) (by omega) (by omega) (by omega)]; exact sv_mood h
  · rw [e5]
    by_cases c : i = n
    · rw [c, pk_us]; unfold sgtK; rw [if_neg (by omega), if_neg (by omega), if_neg (by omega), if_pos rfl]
    · rw [pk_un c, E (75 + 3 * i) (by omega) (by omega) (by omega) (by omega)]; exact sv_sTick h hi
  · rw [e6]
    by_cases c : i = n
    · rw [c, pk_us]; unfold sgtK; rw [if_neg (by omega), if_neg (by omega), if_pos rfl]
    · rw [pk_un c, E (76 + 3 * i) (by omega) (by omega) (by omega) (by omega)]; exact sv_sPart h hi
  · rw [e7]
    by_cases c : i = n
    · rw [c, pk_us]; unfold sgtK; rw [if_neg (by omega), if_pos rfl]
    · rw [pk_un c, E (77 + 3 * i) (by omega) (by omega) (by omega) (by omega)]; exact sv_sStood h hi
/-- one of the site's own numbers -/
theorem sV_104 (h : sV o q f a k) (f1 : f' (o + 12) = v) (f0 : f' o = f o) (f2 : f' (o + 6) = f (o + 6)) (f4 : f' (o + 17) = f (o + 17)) (f5 : f' (o + 18) = f (o + 18)) (hr : ∀ j, j < 13 → a' (q + j) = a (q + j)) : sV o q f' a' (upd k 104 v) := by
  have r0 : a' q = a q := hr 0 (by decide)
  refine ⟨⟨?_, ?_, ?_, ?_, ?_⟩, fun i hi => ⟨?_, ?_, ?_, ?_, ?_⟩, fun i hi => ⟨?_, ?_, ?_, fun hb => ?_⟩, ⟨?_, ?_, ?_, ?_⟩, fun i hi => ⟨?_, ?_, ?_⟩⟩
  · rw [f0, pk_un (by omega)]; exact sv_parts h
  · rw [f2, pk_un (by omega)]; exact sv_builders h
  · rw [f1, pk_us]
  · rw [f4, pk_un (by omega)]; exact sv_lawCount h
  · rw [f5, pk_un (by omega)]; exact sv_inForce h
  · rw [r0, pk_un (by omega)]; exact sv_work h hi
  · rw [hr 1 (by decide), pk_un (by omega)]; exact sv_needs h hi
  · rw [hr 2 (by decide), pk_un (by omega)]; exact sv_craft h hi
  · rw [hr 3 (by decide), pk_un (by omega)]; exact sv_heavy h hi
  · rw [hr 4 (by decide), pk_un (by omega)]; exact sv_left h hi
  · rw [hr 5 (by decide), pk_un (by omega)]; exact sv_crafts h hi
  · rw [hr 6 (by decide), pk_un (by omega)]; exact sv_pace h hi
  · rw [hr 7 (by decide), pk_un (by omega)]; exact sv_tired h hi
  · rw [pk_un (by omega)] at hb
    rw [hr 8 (by decide), pk_un (by omega)]; exact sv_place h hi hb
  · rw [hr 9 (by decide), pk_un (by omega)]; exact sv_hour h
  · rw [hr 9 (by decide), pk_un (by omega)]; exact sv_night h
  · rw [hr 9 (by decide), pk_un (by omega)]; exact sv_rain h
  · rw [hr 9 (by decide), pk_un (by omega)]; exact sv_mood h
  · rw [hr 10 (by decide), pk_un (by omega)]; exact sv_sTick h hi
  · rw [hr 11 (by decide), pk_un (by omega)]; exact sv_sPart h hi
  · rw [hr 12 (by decide), pk_un (by omega)]; exact sv_sStood h hi
theorem sV_106 (h : sV o q f a k) (f1 : f' (o + 18) = v) (f0 : f' o = f o) (f2 : f' (o + 6) = f (o + 6)) (f3 : f' (o + 12) = f (o + 12)) (f4 : f' (o + 17) = f (o + 17)) (hr : ∀ j, j < 13 → a' (q + j) = a (q + j)) : sV o q f' a' (upd k 106 v) := by
  have r0 : a' q = a q := hr 0 (by decide)
  refine ⟨⟨?_, ?_, ?_, ?_, ?_⟩, fun i hi => ⟨?_, ?_, ?_, ?_, ?_⟩, fun i hi => ⟨?_, ?_, ?_, fun hb => ?_⟩, ⟨?_, ?_, ?_, ?_⟩, fun i hi => ⟨?_, ?_, ?_⟩⟩
  · rw [f0, pk_un (by omega)]; exact sv_parts h
  · rw [f2, pk_un (by omega)]; exact sv_builders h
  · rw [f3, pk_un (by omega)]; exact sv_sights h
  · rw [f4, pk_un (by omega)]; exact sv_lawCount h
  · rw [f1, pk_us]
  · rw [r0, pk_un (by omega)]; exact sv_work h hi
  · rw [hr 1 (by decide), pk_un (by omega)]; exact sv_needs h hi
  · rw [hr 2 (by decide), pk_un (by omega)]; exact sv_craft h hi
  · rw [hr 3 (by decide), pk_un (by omega)]; exact sv_heavy h hi
  · rw [hr 4 (by decide), pk_un (by omega)]; exact sv_left h hi
  · rw [hr 5 (by decide), pk_un (by omega)]; exact sv_crafts h hi
  · rw [hr 6 (by decide), pk_un (by omega)]; exact sv_pace h hi
  · rw [hr 7 (by decide), pk_un (by omega)]; exact sv_tired h hi
  · rw [pk_un (by omega)] at hb
    rw [hr 8 (by decide), pk_un (by omega)]; exact sv_place h hi hb
  · rw [hr 9 (by decide), pk_un (by omega)]; exact sv_hour h
  · rw [hr 9 (by decide), pk_un (by omega)]; exact sv_night h
  · rw [hr 9 (by decide), pk_un (by omega)]; exact sv_rain h
  · rw [hr 9 (by decide), pk_un (by omega)]; exact sv_mood h
  · rw [hr 10 (by decide), pk_un (by omega)]; exact sv_sTick h hi
  · rw [hr 11 (by decide), pk_un (by omega)]; exact sv_sPart h hi
  · rw [hr 12 (by decide), pk_un (by omega)]; exact sv_sStood h hi
end SB
set_option maxHeartbeats 4000000 in
set_option maxRecDepth 100000 in
theorem z_addBuilder  (l : Launch) {D : va_G} {K : Nat → ClassId} (r : Nat → Nat) (f : Nat → Int32) (a : Nat → Nat → Int32) (g : xG) (tx tt : va_W) (hT : ∀ c ∈ tt, c ∈ tx) (hI : xI f a) (hG : gOK K g.2 tt) (x : Int32) (y : Int32)  (k : Nat → Int32) (hVw : sV 32 2 f a k) (hkk : kK k)   : kIG l yX7_addBuilder (Cond.code yX7_addBuilder cX7_addBuilder 3 (some .int) :: kG) (rmD 1 0 0) D K [.ref (r 1), .int x, .int y] (xX K r f a g tx) (fun v (u : xS) => kb (-2147483648) v 2147483647 ∧ xI u.1 u.2.1 ∧ gOK K u.2.2.2 tt ∧ xEk ([38], [7, 8, 9, 10], []) f a g u.1 u.2.1 u.2.2 ∧ bldP x y v (f 38) (u.1 38) ∧ ((v.toInt < 0 ∧ sV 32 2 u.1 u.2.1 k) ∨ (¬ v.toInt < 0 ∧ sV 32 2 u.1 u.2.1 (bldK k (k 103).toInt.toNat x y)))) (fun u => xX K r u.1 u.2.1 u.2.2 tx) 0 0 := by
  refine kIE.of (cc := cX7_addBuilder) (maxL := 3) (ret := (some .int)) (by decide) rfl (Nat.le_of_ble_eq_true rfl) ?_
  intro p e s m below meth c A hx hb hr hml hown hts hlocks hnm hK hP hD hS hA hV ls hl
  have hE : xEk ([38], [7, 8, 9, 10], []) f a g f a g := xEk_rf
  have hg : ∀ w ∈ kG, w.before _ s = true := fun w h => hts w (List.mem_cons_of_mem _ h)
  have hown : s.vm.findClass RX7 = some m.cls := hown
  have hl : lv_has ls 3 [(0, .ref (r 1)), (1, .int x), (2, .int y)] := hl
  obtain ⟨c38, ec38⟩ : ∃ z : Int32, z = f 38 := ⟨_, rfl⟩
  refine lv_iload_n hx hb dX7_addBuilder_0 rfl (lv_at hl 1 rfl) ?_
  refine lv_iconst (v := 1) hx hb dX7_addBuilder_1 (by decide) ?_
  refine lv_icmp_lt (tgt := 22) hx hb dX7_addBuilder_2 (by decide) (fun c1 => ?_) (fun c1 => ?_)
  · have h2 := (kc_lt c1)
    have b3 : kb (-2147483648) x 0 := kr_lt1 h2 (kb_any x) kc_1 (by decide)
    refine lv_iconst (v := (-1)) hx hb dX7_addBuilder_22 (by decide) ?_
    exact kI_ret (v := (-1)) hx hb hr hlocks rfl hK hS dX7_addBuilder_23 (f, a, g) hP hD ⟨(kb_w kc_m1 (by decide) (by decide)), hI, hG, hE, (Or.inl ⟨rfl, (fun q => by have w1 := (b3).1; have w2 := (b3).2; have w3 := ((kb_any y)).1; have w4 := ((kb_any y)).2; have q1 := q.1; have q2 := q.2; omega), ((ec38.symm).trans ec38)⟩), (Or.inl ⟨by decide +kernel, by show sV 32 2 f a k; exact sV_cg hVw rfl rfl rfl rfl rfl (fun j hj => rfl)⟩)⟩
  · have h4 := (kc_nlt c1)
    have b5 : kb 1 x 2147483647 := kr_le2 h4 kc_1 (kb_any x)
    refine lv_iload_n hx hb dX7_addBuilder_5 rfl (lv_at hl 1 rfl) ?_
    refine lv_bipush (v := 15) hx hb dX7_addBuilder_6 (by decide) ?_
    refine lv_icmp_gt (tgt := 22) hx hb dX7_addBuilder_8 (by decide) (fun c6 => ?_) (fun c6 => ?_)
    · have h7 := (kc_lt c6)
      have b8 : kb 16 x 2147483647 := kr_lt2 h7 kc_15 b5 (by decide)
      refine lv_iconst (v := (-1)) hx hb dX7_addBuilder_22 (by decide) ?_
      exact kI_ret (v := (-1)) hx hb hr hlocks rfl hK hS dX7_addBuilder_23 (f, a, g) hP hD ⟨(kb_w kc_m1 (by decide) (by decide)), hI, hG, hE, (Or.inl ⟨rfl, (fun q => by have w1 := (b8).1; have w2 := (b8).2; have w3 := ((kb_any y)).1; have w4 := ((kb_any y)).2; have q1 := q.1; have q2 := q.2; omega), ((ec38.symm).trans ec38)⟩), (Or.inl ⟨by decide +kernel, by show sV 32 2 f a k; exact sV_cg hVw rfl rfl rfl rfl rfl (fun j hj => rfl)⟩)⟩
    · have h9 := (kc_nlt c6)
      have b10 : kb 1 x 15 := kr_le1 h9 b5 kc_15
      refine lv_iload_n hx hb dX7_addBuilder_11 rfl (lv_at hl 2 rfl) ?_
      refine lv_iconst (v := 1) hx hb dX7_addBuilder_12 (by decide) ?_
      refine lv_icmp_lt (tgt := 22) hx hb dX7_addBuilder_13 (by decide) (fun c11 => ?_) (fun c11 => ?_)
      · have h12 := (kc_lt c11)
        have b13 : kb (-2147483648) y 0 := kr_lt1 h12 (kb_any y) kc_1 (by decide)
        refine lv_iconst (v := (-1)) hx hb dX7_addBuilder_22 (by decide) ?_
        exact kI_ret (v := (-1)) hx hb hr hlocks rfl hK hS dX7_addBuilder_23 (f, a, g) hP hD ⟨(kb_w kc_m1 (by decide) (by decide)), hI, hG, hE, (Or.inl ⟨rfl, (fun q => by have w1 := (b10).1; have w2 := (b10).2; have w3 := (b13).1; have w4 := (b13).2; have q1 := q.1; have q2 := q.2; omega), ((ec38.symm).trans ec38)⟩), (Or.inl ⟨by decide +kernel, by show sV 32 2 f a k; exact sV_cg hVw rfl rfl rfl rfl rfl (fun j hj => rfl)⟩)⟩
      · have h14 := (kc_nlt c11)
        have b15 : kb 1 y 2147483647 := kr_le2 h14 kc_1 (kb_any y)
        refine lv_iload_n hx hb dX7_addBuilder_16 rfl (lv_at hl 2 rfl) ?_
        refine lv_bipush (v := 9) hx hb dX7_addBuilder_17 (by decide) ?_
        refine lv_icmp_le (tgt := 24) hx hb dX7_addBuilder_19 (by decide) (fun c16 => ?_) (fun c16 => ?_)
        · have h17 := (kc_le c16)
          have b18 : kb 1 y 9 := kr_le1 h17 b15 kc_9
          refine lv_aload_n hx hb dX7_addBuilder_24 rfl (lv_at hl 0 rfl) ?_
          refine va_get (D := D) (ci := 7) (v := .int (f 38)) (C := RX7) (T := TX7) (N := 20) hx hb hg inC7 hown hK hP 1 rfl rfl 6 (by decide) (hg _ wt1_104) (fun _ h9 => h9) rfl dX7_addBuilder_25 ?_
          refine k_top (z := c38) ec38.symm ?_
          refine lv_if_lt (tgt := 40) hx hb dX7_addBuilder_28 (by decide) (fun c19 => ?_) (fun c19 => ?_)
          · have h20 := (kc_lt c19)
            have b21 : kb (-2147483648) c38 (-1) := kr_lt1 h20 (kb_any c38) kc_0 (by decide)
            refine lv_bipush (v := (-5)) hx hb dX7_addBuilder_40 (by decide) ?_
            exact kI_ret (v := (-5)) hx hb hr hlocks rfl hK hS dX7_addBuilder_42 (f, a, g) hP hD ⟨(kb_w kc_m5 (by decide) (by decide)), hI, hG, hE, (Or.inr (Or.inl ⟨rfl, ⟨b10, b18⟩, (by rw [← ec38]; have w1 := (b21).1; have w2 := (b21).2; omega), ((ec38.symm).trans ec38)⟩)), (Or.inl ⟨by decide +kernel, by show sV 32 2 f a k; exact sV_cg hVw rfl rfl rfl rfl rfl (fun j hj => rfl)⟩)⟩
          · have h22 := (kc_nlt c19)
            have b23 : kb 0 c38 2147483647 := kr_le2 h22 kc_0 (kb_any c38)
            refine lv_aload_n hx hb dX7_addBuilder_31 rfl (lv_at hl 0 rfl) ?_
            refine va_get (D := D) (ci := 7) (v := .int (f 38)) (C := RX7) (T := TX7) (N := 20) hx hb hg inC7 hown hK hP 1 rfl rfl 6 (by decide) (hg _ wt1_104) (fun _ h9 => h9) rfl dX7_addBuilder_32 ?_
            refine k_top (z := c38) ec38.symm ?_
            refine lv_bipush (v := 6) hx hb dX7_addBuilder_35 (by decide) ?_
            refine lv_icmp_lt (tgt := 43) hx hb dX7_addBuilder_37 (by decide) (fun c24 => ?_) (fun c24 => ?_)
            · have h25 := (kc_lt c24)
              have b26 : kb 0 c38 5 := kr_lt1 h25 b23 kc_6 (by decide)
              refine lv_aload_n hx hb dX7_addBuilder_43 rfl (lv_at hl 0 rfl) ?_
              refine va_get (D := D) (ci := 7) (v := .ref (r 7)) (C := RX7) (T := TX7) (N := 20) hx hb hg inC7 hown hK hP 1 rfl rfl 7 (by decide) (hg _ wt1_110) (fun _ h9 => h9) rfl dX7_addBuilder_44 ?_
              refine lv_aload_n hx hb dX7_addBuilder_47 rfl (lv_at hl 0 rfl) ?_
              refine va_get (D := D) (ci := 7) (v := .int (f 38)) (C := RX7) (T := TX7) (N := 20) hx hb hg inC7 hown hK hP 1 rfl rfl 6 (by decide) (hg _ wt1_104) (fun _ h9 => h9) rfl dX7_addBuilder_48 ?_
              refine k_top (z := c38) ec38.symm ?_
              refine lv_iload_n hx hb dX7_addBuilder_51 rfl (lv_at hl 1 rfl) ?_
              refine va_iast hx hb hK hP hD hS 7 0 rfl rfl (kb_in b26 (by decide) (by decide)) dX7_addBuilder_52 (fun H locs hP hD hS => ?_)
              have hP : va_P D vwCl (xX K r f (va_up a 7 (upd (a 7) c38.toNatClampNeg x)) g tx) H := hP
              have hD : va_D A (xX K r f (va_up a 7 (upd (a 7) c38.toNatClampNeg x)) g tx) := hD
              refine k_gen (P := fun z => va_P D vwCl (xX K r f z g tx) H ∧ va_D A (xX K r f z g tx) ∧ (xI f z) ∧ (gOK K g.2 tt) ∧ (xEk ([38], [7, 8, 9, 10], []) f a g f z g)) (va_up a 7 (upd (a 7) c38.toNatClampNeg x)) ⟨hP, hD, (xI_a hI (by decide)), hG, (xEk_a hE rfl)⟩ (fun a_27 ea_27 hq => ?_)
              obtain ⟨hP, hD, hI, hG, hE⟩ := hq
              refine lv_aload_n hx hb dX7_addBuilder_53 rfl (lv_at hl 0 rfl) ?_
              refine va_get (D := D) (ci := 7) (v := .ref (r 8)) (C := RX7) (T := TX7) (N := 20) hx hb hg inC7 hown hK hP 1 rfl rfl 8 (by decide) (hg _ wt1_114) (fun _ h9 => h9) rfl dX7_addBuilder_54 ?_
              refine lv_aload_n hx hb dX7_addBuilder_57 rfl (lv_at hl 0 rfl) ?_
              refine va_get (D := D) (ci := 7) (v := .int (f 38)) (C := RX7) (T := TX7) (N := 20) hx hb hg inC7 hown hK hP 1 rfl rfl 6 (by decide) (hg _ wt1_104) (fun _ h9 => h9) rfl dX7_addBuilder_58 ?_
              refine k_top (z := c38) ec38.symm ?_
              refine lv_iload_n hx hb dX7_addBuilder_61 rfl (lv_at hl 2 rfl) ?_
              refine va_iast hx hb hK hP hD hS 8 0 rfl rfl (kb_in b26 (by decide) (by decide)) dX7_addBuilder_62 (fun H locs hP hD hS => ?_)
              have hP : va_P D vwCl (xX K r f (va_up a_27 8 (upd (a_27 8) c38.toNatClampNeg y)) g tx) H := hP
              have hD : va_D A (xX K r f (va_up a_27 8 (upd (a_27 8) c38.toNatClampNeg y)) g tx) := hD
              refine k_gen (P := fun z => va_P D vwCl (xX K r f z g tx) H ∧ va_D A (xX K r f z g tx) ∧ (xI f z) ∧ (gOK K g.2 tt) ∧ (xEk ([38], [7, 8, 9, 10], []) f a g f z g)) (va_up a_27 8 (upd (a_27 8) c38.toNatClampNeg y)) ⟨hP, hD, (xI_a hI (by decide)), hG, (xEk_a hE rfl)⟩ (fun a_28 ea_28 hq => ?_)
              obtain ⟨hP, hD, hI, hG, hE⟩ := hq
              refine lv_aload_n hx hb dX7_addBuilder_63 rfl (lv_at hl 0 rfl) ?_
              refine va_get (D := D) (ci := 7) (v := .ref (r 9)) (C := RX7) (T := TX7) (N := 20) hx hb hg inC7 hown hK hP 1 rfl rfl 9 (by decide) (hg _ wt1_116) (fun _ h9 => h9) rfl dX7_addBuilder_64 ?_
              refine lv_aload_n hx hb dX7_addBuilder_67 rfl (lv_at hl 0 rfl) ?_
              refine va_get (D := D) (ci := 7) (v := .int (f 38)) (C := RX7) (T := TX7) (N := 20) hx hb hg inC7 hown hK hP 1 rfl rfl 6 (by decide) (hg _ wt1_104) (fun _ h9 => h9) rfl dX7_addBuilder_68 ?_
              refine k_top (z := c38) ec38.symm ?_
              refine lv_iconst (v := 0) hx hb dX7_addBuilder_71 (by decide) ?_
              refine va_iast hx hb hK hP hD hS 9 0 rfl rfl (kb_in b26 (by decide) (by decide)) dX7_addBuilder_72 (fun H locs hP hD hS => ?_)
              have hP : va_P D vwCl (xX K r f (va_up a_28 9 (upd (a_28 9) c38.toNatClampNeg 0)) g tx) H := hP
              have hD : va_D A (xX K r f (va_up a_28 9 (upd (a_28 9) c38.toNatClampNeg 0)) g tx) := hD
              refine k_gen (P := fun z => va_P D vwCl (xX K r f z g tx) H ∧ va_D A (xX K r f z g tx) ∧ (xI f z) ∧ (gOK K g.2 tt) ∧ (xEk ([38], [7, 8, 9, 10], []) f a g f z g)) (va_up a_28 9 (upd (a_28 9) c38.toNatClampNeg 0)) ⟨hP, hD, (xI_a hI (by decide)), hG, (xEk_a hE rfl)⟩ (fun a_29 ea_29 hq => ?_)
              obtain ⟨hP, hD, hI, hG, hE⟩ := hq
              refine lv_aload_n hx hb dX7_addBuilder_73 rfl (lv_at hl 0 rfl) ?_
              refine va_get (D := D) (ci := 7) (v := .ref (r 10)) (C := RX7) (T := TX7) (N := 20) hx hb hg inC7 hown hK hP 1 rfl rfl 10 (by decide) (hg _ wt1_121) (fun _ h9 => h9) rfl dX7_addBuilder_74 ?_
              refine lv_aload_n hx hb dX7_addBuilder_77 rfl (lv_at hl 0 rfl) ?_
              refine va_get (D := D) (ci := 7) (v := .int (f 38)) (C := RX7) (T := TX7) (N := 20) hx hb hg inC7 hown hK hP 1 rfl rfl 6 (by decide) (hg _ wt1_104) (fun _ h9 => h9) rfl dX7_addBuilder_78 ?_
              refine k_top (z := c38) ec38.symm ?_
              refine lv_iconst (v := (-1)) hx hb dX7_addBuilder_81 (by decide) ?_
              refine va_iast hx hb hK hP hD hS 10 0 rfl rfl (kb_in b26 (by decide) (by decide)) dX7_addBuilder_82 (fun H locs hP hD hS => ?_)
              have hP : va_P D vwCl (xX K r f (va_up a_29 10 (upd (a_29 10) c38.toNatClampNeg (-1))) g tx) H := hP
              have hD : va_D A (xX K r f (va_up a_29 10 (upd (a_29 10) c38.toNatClampNeg (-1))) g tx) := hD
              refine k_gen (P := fun z => va_P D vwCl (xX K r f z g tx) H ∧ va_D A (xX K r f z g tx) ∧ (xI f z) ∧ (gOK K g.2 tt) ∧ (xEk ([38], [7, 8, 9, 10], []) f a g f z g)) (va_up a_29 10 (upd (a_29 10) c38.toNatClampNeg (-1))) ⟨hP, hD, (xI_a hI (by decide)), hG, (xEk_a hE rfl)⟩ (fun a_30 ea_30 hq => ?_)
              obtain ⟨hP, hD, hI, hG, hE⟩ := hq
              refine lv_aload_n hx hb dX7_addBuilder_83 rfl (lv_at hl 0 rfl) ?_
              refine lv_dup hx hb dX7_addBuilder_84 rfl ?_
              refine va_get (D := D) (ci := 7) (v := .int (f 38)) (C := RX7) (T := TX7) (N := 20) hx hb hg inC7 hown hK hP 1 rfl rfl 6 (by decide) (hg _ wt1_104) (fun _ h9 => h9) rfl dX7_addBuilder_85 ?_
              refine k_top (z := c38) ec38.symm ?_
              refine lv_iconst (v := 1) hx hb dX7_addBuilder_88 (by decide) ?_
              refine lv_iadd hx hb dX7_addBuilder_89 ?_
              refine lv_topi (fun t31 et31 => ?_)
              have b32 : kb 1 t31 6 := kb_eq et31 (kb_add b26 kc_1 (by decide) (by decide))
              have qt31 : t31.toInt = c38.toInt + 1 := by rw [et31]; exact kt_addc b26 kc_1 (by decide) (by decide)
              refine va_put (D := D) (ci := 7) (v := .int t31) (ty := .int) (C := RX7) (T := TX7) (N := 20) hx hb hg inC7 tyX7 tyX7_ok nmX7 hown hK hP hD hS 1 rfl rfl 6 (by decide) (hg _ wt1_104) (fun _ h9 => h9) rfl (by decide +kernel) rfl rfl (Nat.le_of_ble_eq_true rfl) dX7_addBuilder_90 (fun H locs hP hD hS => ?_)
              have hP : va_P D vwCl (xX K r (upd f 38 t31) a_30 g tx) H := hP
              have hD : va_D A (xX K r (upd f 38 t31) a_30 g tx) := hD
              refine k_gen (P := fun z => va_P D vwCl (xX K r z a_30 g tx) H ∧ va_D A (xX K r z a_30 g tx) ∧ (xI z a_30) ∧ (gOK K g.2 tt) ∧ (xEk ([38], [7, 8, 9, 10], []) f a g z a_30 g)) (upd f 38 t31) ⟨hP, hD, (xI_f hI (fI_st hI.1 38 (kb_any _) (by decide) (by decide))), hG, (xEk_f hE rfl)⟩ (fun f_33 ef_33 hq => ?_)
              obtain ⟨hP, hD, hI, hG, hE⟩ := hq
              refine lv_aload_n hx hb dX7_addBuilder_93 rfl (lv_at hl 0 rfl) ?_
              refine va_get (D := D) (ci := 7) (v := .int (f_33 38)) (C := RX7) (T := TX7) (N := 20) hx hb hg inC7 hown hK hP 1 rfl rfl 6 (by decide) (hg _ wt1_104) (fun _ h9 => h9) rfl dX7_addBuilder_94 ?_
              refine k_top (z := t31) (show f_33 38 = t31 from by rw [← ef_33]; rfl) ?_
              refine lv_iconst (v := 1) hx hb dX7_addBuilder_97 (by decide) ?_
              refine lv_isub hx hb dX7_addBuilder_98 ?_
              refine lv_topi (fun t34 et34 => ?_)
              have b35 : kb 0 t34 5 := kb_eq et34 (kb_sub b32 kc_1 (by decide) (by decide))
              have qt34 : t34.toInt = t31.toInt - 1 := by rw [et34]; exact kt_subc b32 kc_1 (by decide) (by decide)
              exact kI_ret (v := t34) hx hb hr hlocks rfl hK hS dX7_addBuilder_99 (f_33, a_30, g) hP hD ⟨(kb_w b35 (by decide) (by decide)), hI, hG, hE, (Or.inr (Or.inr ⟨(by rw [← ec38]; exact Int32.toInt_inj.mp (by omega)), ⟨b10, b18⟩, (by rw [← ec38]; exact b26), (by show (f_33 38).toInt = (f 38).toInt + 1; have e1 := congrArg Int32.toInt ((show f_33 38 = t31 from by rw [← ef_33]; rfl)); have e2 := congrArg Int32.toInt ec38; omega)⟩)), (Or.inr ⟨(fun w9 => by have w1 := qt34; have w2 := qt31; have w3 := (b26).1; omega), (show sV 32 2 f_33 a_30 _ from sV_bld hVw (by rw [← sv_builders hVw, ← ec38]; have w1 := (b26).2; have w2 := (b26).1; omega) (show (k 103).toInt = (((k 103).toInt.toNat : Nat) : Int) from by rw [← sv_builders hVw, ← ec38]; have w2 := (b26).1; omega) ((show f_33 38 = t31 from by rw [← ef_33]; rfl).trans (et31.trans (by rw [ec38, sv_builders hVw]))) (hE.1 32 rfl) (hE.1 44 rfl) (hE.1 49 rfl) (hE.1 50 rfl) (((show a_30 7 = a_29 7 from by rw [← ea_30]; rfl).trans ((show a_29 7 = a_28 7 from by rw [← ea_29]; rfl).trans ((show a_28 7 = a_27 7 from by rw [← ea_28]; rfl).trans (show a_27 7 = upd (a 7) c38.toNatClampNeg x from by rw [← ea_27]; rfl)))).trans (by rw [(show c38.toNatClampNeg = (k 103).toInt.toNat from by rw [← sv_builders hVw, ← ec38]; rfl)])) (((show a_30 8 = a_29 8 from by rw [← ea_30]; rfl).trans ((show a_29 8 = a_28 8 from by rw [← ea_29]; rfl).trans ((show a_28 8 = upd (a_27 8) c38.toNatClampNeg y from by rw [← ea_28]; rfl).trans (congrArg (fun zz_ => upd zz_ c38.toNatClampNeg y) (show a_27 8 = a 8 from by rw [← ea_27]; rfl))))).trans (by rw [(show c38.toNatClampNeg = (k 103).toInt.toNat from by rw [← sv_builders hVw, ← ec38]; rfl)])) (((show a_30 9 = a_29 9 from by rw [← ea_30]; rfl).trans ((show a_29 9 = upd (a_28 9) c38.toNatClampNeg 0 from by rw [← ea_29]; rfl).trans (congrArg (fun zz_ => upd zz_ c38.toNatClampNeg 0) ((show a_28 9 = a_27 9 from by rw [← ea_28]; rfl).trans (show a_27 9 = a 9 from by rw [← ea_27]; rfl))))).trans (by rw [(show c38.toNatClampNeg = (k 103).toInt.toNat from by rw [← sv_builders hVw, ← ec38]; rfl)])) (((show a_30 10 = upd (a_29 10) c38.toNatClampNeg (-1) from by rw [← ea_30]; rfl).trans (congrArg (fun zz_ => upd zz_ c38.toNatClampNeg (-1)) ((show a_29 10 = a_28 10 from by rw [← ea_29]; rfl).trans ((show a_28 10 = a_27 10 from by rw [← ea_28]; rfl).trans (show a_27 10 = a 10 from by rw [← ea_27]; rfl))))).trans (by rw [(show c38.toNatClampNeg = (k 103).toInt.toNat from by rw [← sv_builders hVw, ← ec38]; rfl)])) (fun j hj hn => by rcases (show j = 0 ∨ j = 1 ∨ j = 2 ∨ j = 3 ∨ j = 4 ∨ j = 9 ∨ j = 10 ∨ j = 11 ∨ j = 12 by omega) with e | e | e | e | e | e | e | e | e <;> (subst e; exact hE.2.1 _ rfl)))⟩)⟩
            · have h36 := (kc_nlt c24)
              have b37 : kb 6 c38 2147483647 := kr_le2 h36 kc_6 b23
              refine lv_bipush (v := (-5)) hx hb dX7_addBuilder_40 (by decide) ?_
              exact kI_ret (v := (-5)) hx hb hr hlocks rfl hK hS dX7_addBuilder_42 (f, a, g) hP hD ⟨(kb_w kc_m5 (by decide) (by decide)), hI, hG, hE, (Or.inr (Or.inl ⟨rfl, ⟨b10, b18⟩, (by rw [← ec38]; have w1 := (b37).1; have w2 := (b37).2; omega), ((ec38.symm).trans ec38)⟩)), (Or.inl ⟨by decide +kernel, by show sV 32 2 f a k; exact sV_cg hVw rfl rfl rfl rfl rfl (fun j hj => rfl)⟩)⟩
        · have h38 := (kc_nle c16)
          have b39 : kb 10 y 2147483647 := kr_lt2 h38 kc_9 b15 (by decide)
          refine lv_iconst (v := (-1)) hx hb dX7_addBuilder_22 (by decide) ?_
          exact kI_ret (v := (-1)) hx hb hr hlocks rfl hK hS dX7_addBuilder_23 (f, a, g) hP hD ⟨(kb_w kc_m1 (by decide) (by decide)), hI, hG, hE, (Or.inl ⟨rfl, (fun q => by have w1 := (b10).1; have w2 := (b10).2; have w3 := (b39).1; have w4 := (b39).2; have q1 := q.1; have q2 := q.2; omega), ((ec38.symm).trans ec38)⟩), (Or.inl ⟨by decide +kernel, by show sV 32 2 f a k; exact sV_cg hVw rfl rfl rfl rfl rfl (fun j hj => rfl)⟩)⟩
set_option maxHeartbeats 4000000 in
set_option maxRecDepth 100000 in
theorem z_builder  (l : Launch) {D : va_G} {K : Nat → ClassId} (r : Nat → Nat) (f : Nat → Int32) (a : Nat → Nat → Int32) (g : xG) (tx tt : va_W) (hT : ∀ c ∈ tt, c ∈ tx) (hI : xI f a) (hG : gOK K g.2 tt) (x : Int32) (y : Int32)  (k : Nat → Int32) (hVw : sV 32 2 f a k) (hkk : kK k) (P : pS) (hp0 : xPs (f 704) (f 705) (a 23) P (kBn k)) : kIG l yX11_builder (Cond.code yX11_builder cX11_builder 4 (some .int) :: kG) (rmD 3 0 0) D K [.ref (r 0), .int x, .int y] (xX K r f a g tx) (fun v (u : xS) => kb (-2147483648) v 2147483647 ∧ xI u.1 u.2.1 ∧ gOK K u.2.2.2 tt ∧ xEk ([16, 38, 704, 705, 2565, 2566, 2786], [7, 8, 9, 10, 81, 94], []) f a g u.1 u.2.1 u.2.2 ∧ bldP x y v (f 38) (u.1 38) ∧ xTe 32 2 v u.1 u.2.1 (a 94) k P (bldK k (k 103).toInt.toNat x y) (noP P) (kBn k)) (fun u => xX K r u.1 u.2.1 u.2.2 tx) 0 0 := by
  refine kIE.of (cc := cX11_builder) (maxL := 4) (ret := (some .int)) (by decide) rfl (Nat.le_of_ble_eq_true rfl) ?_
  intro p e s m below meth c A hx hb hr hml hown hts hlocks hnm hK hP hD hS hA hV ls hl
  have hE : xEk ([16, 38, 704, 705, 2565, 2566, 2786], [7, 8, 9, 10, 81, 94], []) f a g f a g := xEk_rf
  have hg : ∀ w ∈ kG, w.before _ s = true := fun w h => hts w (List.mem_cons_of_mem _ h)
  have hown : s.vm.findClass RX11 = some m.cls := hown
  have hl : lv_has ls 4 [(0, .ref (r 0)), (1, .int x), (2, .int y)] := hl
  refine lv_aload_n hx hb dX11_builder_0 rfl (lv_at hl 0 rfl) ?_
  refine va_get (D := D) (ci := 11) (v := .ref (r 1)) (C := RX11) (T := TX11) (N := 17) hx hb hg inC11 hown hK hP 0 rfl rfl 0 (by decide) (hg _ wt2_186) (fun _ h9 => h9) rfl dX11_builder_1 ?_
  refine lv_iload_n hx hb dX11_builder_4 rfl (lv_at hl 1 rfl) ?_
  refine lv_iload_n hx hb dX11_builder_5 rfl (lv_at hl 2 rfl) ?_
  refine kIG.callW (As := [.int x, .int y]) (rest := []) ⟨hx, hb, hml, hown, hg⟩ (z_addBuilder l r f a g tx tt hT hI hG x y  k hVw hkk ) (cwV 2 hg (kgV wt3_59 wt3_60 wt3_61 wt1_2 wt3_62) rfl rfl rfl (by decide +kernel) ⟨by decide, by decide⟩) hV hK hP hD hS hA (1) 7 rfl rfl rfl hl.1 rfl (Nat.le_of_ble_eq_true rfl) dX11_builder_6 ⟨Nat.le_refl _, Nat.le_refl _⟩ (fun v2 u3 H locs hw1 hP hD hS => ?_)
  obtain ⟨f4, a5, g6⟩ := u3
  have hP : va_P D vwCl (xX K r f4 a5 g6 tx) H := hP
  have hD : va_D A (xX K r f4 a5 g6 tx) := hD
  have hI : xI f4 a5 := hw1.2.1
  have hG : gOK K g6.2 tt := hw1.2.2.1
  have eE7 : xEk ([38], [7, 8, 9, 10], []) f a g f4 a5 g6 := hw1.2.2.2.1
  have hE : xEk ([16, 38, 704, 705, 2565, 2566, 2786], [7, 8, 9, 10, 81, 94], []) f a g f4 a5 g6 := xEk_tr hE (xEk_w (by decide +kernel) eE7)
  refine lv_istore_n (lv' := [(3, .int v2), (0, .ref (r 0)), (1, .int x), (2, .int y)]) hx hb dX11_builder_9 rfl hl (by decide) rfl (fun ls hl => ?_)
  refine lv_iload_n hx hb dX11_builder_10 rfl (lv_at hl 0 rfl) ?_
  refine lv_if_ge (tgt := 20) hx hb dX11_builder_11 (by decide) (fun c8 => ?_) (fun c8 => ?_)
  · have h9 := (kc_le c8)
    have b10 : kb 0 v2 2147483647 := kr_le2 h9 kc_0 (kb_any v2)
    refine lv_aload_n hx hb dX11_builder_20 rfl (lv_at hl 1 rfl) ?_
    refine va_get (D := D) (ci := 11) (v := .ref (r 22)) (C := RX11) (T := TX11) (N := 17) hx hb hg inC11 hown hK hP 0 rfl rfl 1 (by decide) (hg _ wt2_187) (fun _ h9 => h9) rfl dX11_builder_21 ?_
    refine kVG.callW (As := []) (rest := []) ⟨hx, hb, hml, hown, hg⟩ (z_pclear l r f4 a5 g6 tx tt hT hI hG   ) (cwV 0 hg (kgV wt3_11 wt3_12 wt3_13 wt1_4 wt3_14) rfl rfl rfl (by decide +kernel) ⟨by decide, by decide⟩) hV hK hP hD hS hA (22) 2 rfl rfl rfl hl.1 rfl (Nat.le_of_ble_eq_true rfl) dX11_builder_24 ⟨Nat.le_refl _, Nat.le_refl _⟩ (fun u13 H locs hw11 hP hD hS => ?_)
    obtain ⟨f14, a15, g16⟩ := u13
    have hP : va_P D vwCl (xX K r f14 a15 g16 tx) H := hP
    have hD : va_D A (xX K r f14 a15 g16 tx) := hD
    have hI : xI f14 a15 := hw11.1
    have hG : gOK K g16.2 tt := hw11.2.1
    have eE17 : xEk ([704, 705], [], []) f4 a5 g6 f14 a15 g16 := hw11.2.2.1
    have hE : xEk ([16, 38, 704, 705, 2565, 2566, 2786], [7, 8, 9, 10, 81, 94], []) f a g f14 a15 g16 := xEk_tr hE (xEk_w (by decide +kernel) eE17)
    refine lv_aload_n hx hb dX11_builder_27 rfl (lv_at hl 1 rfl) ?_
    refine lv_iload_n hx hb dX11_builder_28 rfl (lv_at hl 0 rfl) ?_
    refine kIG.callW (As := [.int v2]) (rest := []) ⟨hx, hb, hml, hown, hg⟩ (z_agreeChanged l r f14 a15 g16 tx tt hT hI hG v2  ) (cwV 1 hg (kgV wt3_15 wt3_17 wp1_1 wt1_1 wt3_18) rfl rfl rfl (by decide +kernel) ⟨by decide, by decide⟩) hV hK hP hD hS hA (0) 11 rfl rfl rfl hl.1 rfl (Nat.le_of_ble_eq_true rfl) dX11_builder_29 ⟨Nat.le_refl _, Nat.le_refl _⟩ (fun v19 u20 H locs hw18 hP hD hS => ?_)
    obtain ⟨f21, a22, g23⟩ := u20
    have hP : va_P D vwCl (xX K r f21 a22 g23 tx) H := hP
    have hD : va_D A (xX K r f21 a22 g23 tx) := hD
    have hI : xI f21 a22 := hw18.2.1
    have hG : gOK K g23.2 tt := hw18.2.2.1
    have eE24 : xEk ([16, 2565, 2566, 2786], [81], []) f14 a15 g16 f21 a22 g23 := hw18.2.2.2.1
    have hE : xEk ([16, 38, 704, 705, 2565, 2566, 2786], [7, 8, 9, 10, 81, 94], []) f a g f21 a22 g23 := xEk_tr hE (xEk_w (by decide +kernel) eE24)
    refine k_top (z := v2) hw18.2.2.2.2.1 ?_
    exact kI_ret (v := v2) hx hb hr hlocks rfl hK hS dX11_builder_32 (f21, a22, g23) hP hD ⟨(kb_w b10 (by decide) (by decide)), hI, hG, hE, (show bldP x y v2 (f 38) (f21 38) from by rw [show f21 38 = f4 38 from ((eE24.1 38 rfl).trans (eE17.1 38 rfl))]; exact hw1.2.2.2.2.1), (Or.inr ⟨(fun h9 => by have w3 : (0 : Int32).toInt = 0 := (by decide +kernel); have w2 := kc_le c8; omega), hw1.2.2.2.2.2.elim (fun h => absurd h.1 (fun h9 => by have w3 : (0 : Int32).toInt = 0 := (by decide +kernel); have w2 := kc_le c8; omega)) (fun h => sV_E (sV_E h.2 eE17 (by decide +kernel) (by decide +kernel)) eE24 (by decide +kernel) (by decide +kernel)), xP_no ((eE24.1 704 rfl).trans hw11.2.2.2.1) ((eE24.1 705 rfl).trans hw11.2.2.2.2), hw18.2.2.2.2.2, fun R1 hR => by show rfE (a22 94) R1; rw [show a22 94 = a 94 from ((eE24.2.1 94 rfl).trans ((eE17.2.1 94 rfl).trans (eE7.2.1 94 rfl)))]; exact hR⟩)⟩
  · have h25 := (kc_nle c8)
    have b26 : kb (-2147483648) v2 (-1) := kr_lt1 h25 (kb_any v2) kc_0 (by decide)
    have b27 : kb (-6) v2 (-1) := (m15 (pBn5 hw1.2.2.2.2.1 (by have w3 : (0 : Int32).toInt = 0 := (by decide +kernel); have w2 := kc_nle c8; omega))).1
    refine lv_aload_n hx hb dX11_builder_14 rfl (lv_at hl 1 rfl) ?_
    refine lv_iload_n hx hb dX11_builder_15 rfl (lv_at hl 0 rfl) ?_
    refine kIG.callW (As := [.int v2]) (rest := []) ⟨hx, hb, hml, hown, hg⟩ (z_refuse l r f4 a5 g6 tx tt hT hI hG v2 b27 (m15 (pBn5 hw1.2.2.2.2.1 (by have w3 : (0 : Int32).toInt = 0 := (by decide +kernel); have w2 := kc_nle c8; omega))).2) (cwV 1 hg (kgV wt3_7 wt3_9 wp1_0 wt1_1 wt3_10) rfl rfl rfl (by decide +kernel) ⟨by decide, by decide⟩) hV hK hP hD hS hA (0) 11 rfl rfl rfl hl.1 rfl (Nat.le_of_ble_eq_true rfl) dX11_builder_16 ⟨Nat.le_refl _, Nat.le_refl _⟩ (fun v29 u30 H locs hw28 hP hD hS => ?_)
    obtain ⟨f31, a32, g33⟩ := u30
    have hP : va_P D vwCl (xX K r f31 a32 g33 tx) H := hP
    have hD : va_D A (xX K r f31 a32 g33 tx) := hD
    have hI : xI f31 a32 := hw28.2.1
    have hG : gOK K g33.2 tt := hw28.2.2.1
    have eE34 : xEk ([16], [94], []) f4 a5 g6 f31 a32 g33 := hw28.2.2.2.1
    have hE : xEk ([16, 38, 704, 705, 2565, 2566, 2786], [7, 8, 9, 10, 81, 94], []) f a g f31 a32 g33 := xEk_tr hE (xEk_w (by decide +kernel) eE34)
    refine k_top (z := v2) hw28.2.2.2.2.1 ?_
    exact kI_ret (v := v2) hx hb hr hlocks rfl hK hS dX11_builder_19 (f31, a32, g33) hP hD ⟨(kb_w b27 (by decide) (by decide)), hI, hG, hE, (show bldP x y v2 (f 38) (f31 38) from by rw [show f31 38 = f4 38 from (eE34.1 38 rfl)]; exact hw1.2.2.2.2.1), (Or.inl ⟨(by have w3 : (0 : Int32).toInt = 0 := (by decide +kernel); have w2 := kc_nle c8; omega), hw1.2.2.2.2.2.elim (fun h => sV_E h.2 eE34 (by decide +kernel) (by decide +kernel)) (fun h => absurd (by have w3 : (0 : Int32).toInt = 0 := (by decide +kernel); have w2 := kc_nle c8; omega) h.1), xP_cg hp0 ((eE34.1 704 rfl).trans (eE7.1 704 rfl)) ((eE34.1 705 rfl).trans (eE7.1 705 rfl)) ((eE34.2.1 23 rfl).trans (eE7.2.1 23 rfl)), hw28.2.2.2.2.2.1, fun R1 hR => hw28.2.2.2.2.2.2 R1 (by rw [show a5 94 = a 94 from (eE7.2.1 94 rfl)]; exact hR)⟩)⟩
