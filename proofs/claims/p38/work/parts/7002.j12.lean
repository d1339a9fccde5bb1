/-! more is kept: the class's side -/
section SK
variable {o q n : Nat} {f f' : Nat → Int32} {a a' : Nat → Nat → Int32} {k : Nat → Int32} {x y z w : Int32}
theorem prtK_n (hn : n < 10) {i : Nat} (h0 : ¬ i = 102) (h1 : ¬ i = 0 + n) (h2 : ¬ i = 53 + n) (h3 : ¬ i = 43 + n) (h4 : ¬ i = 33 + n) (h5 : ¬ i = 23 + n) : prtK k n x y z w i = k i := by
  unfold prtK
  rw [if_neg h0, if_neg h1, if_neg h2, if_neg h3, if_neg h4, if_neg h5]
theorem sV_prt (h : sV o q f a k) (hn : n < 10) (f1 : f' o = k 102 + 1) (f2 : f' (o + 6) = f (o + 6)) (f3 : f' (o + 12) = f (o + 12)) (f4 : f' (o + 17) = f (o + 17)) (f5 : f' (o + 18) = f (o + 18)) (e0 : a' q = upd (a q) n x) (e1 : a' (q + 1) = upd (a (q + 1)) n y) (e2 : a' (q + 2) = upd (a (q + 2)) n z) (e3 : a' (q + 3) = upd (a (q + 3)) n w) (e4 : a' (q + 4) = upd (a (q + 4)) n x) (hr : ∀ j, 5 ≤ j → j < 13 → a' (q + j) = a (q + j)) : sV o q f' a' (prtK k n x y z w) := by
  have E : ∀ i, ¬ i = 102 → ¬ i = 0 + n → ¬ i = 53 + n → ¬ i = 43 + n → ¬ i = 33 + n → ¬ i = 23 + n → prtK k n x y z w i = k i := fun i b0 b1 b2 b3 b4 b5 => prtK_n hn b0 b1 b2 b3 b4 b5
  refine ⟨⟨?_, ?_, ?_, ?_, ?_⟩, fun i hi => ⟨?_, ?_, ?_, ?_, ?_⟩, fun i hi => ⟨?_, ?_, ?_, fun hb => ?_⟩, ⟨?_, ?_, ?_, ?_⟩, fun i hi => ⟨?_, ?_, ?_⟩⟩
  · rw [f1]; unfold prtK; rw [if_pos rfl]
  · rw [f2, E 103 (by omega) (by omega) (by omega) (by omega) (by omega) (by omega)]; exact sv_builders h
  · rw [f3, E 104 (by omega) (by omega) (by omega) (by omega) (by omega) (by omega)]; exact sv_sights h
  · rw [f4, E 105 (by omega) (by omega) (by omega) (by omega) (by omega) (by omega)]; exact sv_lawCount h
  · rw [f5, E 106 (by omega) (by omega) (by omega) (by omega) (by omega) (by omega)]; exact sv_inForce h
  · rw [e0]
    by_cases c : i = n
    · rw [c, pk_us]; unfold prtK; rw [if_neg (by omega), if_neg (by omega), if_neg (by omega), if_neg (by omega), if_neg (by omega), if_pos rfl]
    · rw [pk_un c, E (23 + i) (by omega) (by omega) (by omega) (by omega) (by omega) (by omega)]; exact sv_work h hi
  · rw [e1]
    by_cases c : i = n
    · rw [c, pk_us]; unfold prtK; rw [if_neg (by omega), if_neg (by omega), if_neg (by omega), if_neg (by omega), if_pos rfl]
    · rw [pk_un c, E (33 + i) (by omega) (by omega) (by omega) (by omega) (by omega) (by omega)]; exact sv_needs h hi
  · rw [e2]
    by_cases c : i = n
    · rw [c, pk_us]; unfold prtK; rw [if_neg (by omega), if_neg (by omega), if_neg (by omega), if_pos rfl]
    · rw [pk_un c, E (43 + i) (by omega) (by omega) (by omega) (by omega) (by omega) (by omega)]; exact sv_craft h hi
  · rw [e3]
    by_cases c : i = n
    · rw [c, pk_us]; unfold prtK; rw [if_neg (by omega), if_neg (by omega), if_pos rfl]
    · rw [pk_un c, E (53 + i) (by omega) (by omega) (by omega) (by omega) (by omega) (by omega)]; exact sv_heavy h hi
  · rw [e4]
    by_cases c : i = n
    · rw [c, pk_us]; unfold prtK; rw [if_neg (by omega), if_pos rfl]
    · rw [pk_un c, E (0 + i) (by omega) (by omega) (by omega) (by omega) (by omega) (by omega)]; exact sv_left h hi
  · rw [hr 5 (by decide) (by decide), E (63 + i) (by omega) (by omega) (by omega) (by omega) (by omega) (by omega)]; exact sv_crafts h hi
  · rw [hr 6 (by decide) (by decide), E (69 + i) (by omega) (by omega) (by omega) (by omega) (by omega) (by omega)]; exact sv_pace h hi
  · rw [hr 7 (by decide) (by decide), E (10 + i) (by omega) (by omega) (by omega) (by omega) (by omega) (by omega)]; exact sv_tired h hi
  · rw [E 103 (by omega) (by omega) (by omega) (by omega) (by omega) (by omega)] at hb
    rw [hr 8 (by decide) (by decide), E (16 + i) (by omega) (by omega) (by omega) (by omega) (by omega) (by omega)]; exact sv_place h hi hb
  · rw [hr 9 (by decide) (by decide), E 22 (by omega) (by omega) (by omega) (by omega) (by omega) (by omega)]; exact sv_hour h
  · rw [hr 9 (by decide) (by decide), E 99 (by omega) (by omega) (by omega) (by omega) (by omega) (by omega)]; exact sv_night h
  · rw [hr 9 (by decide) (by decide), E 100 (by omega) (by omega) (by omega) (by omega) (by omega) (by omega)]; exact sv_rain h
  · rw [hr 9 (by decide) (by decide), E 101 (by omega) (by omega) (by omega) (by omega) (by omega) (by omega)]; exact sv_mood h
  · rw [hr 10 (by decide) (by decide), E (75 + 3 * i) (by omega) (by omega) (by omega) (by omega) (by omega) (by omega)]; exact sv_sTick h hi
  · rw [hr 11 (by decide) (by decide), E (76 + 3 * i) (by omega) (by omega) (by omega) (by omega) (by omega) (by omega)]; exact sv_sPart h hi
  · rw [hr 12 (by decide) (by decide), E (77 + 3 * i) (by omega) (by omega) (by omega) (by omega) (by omega) (by omega)]; exact sv_sStood h hi
end SK
def xTe (o q : Nat) (v : Int32) (f : Nat → Int32) (a : Nat → Nat → Int32) (C0 k : Nat → Int32) (P : pS) (k' : Nat → Int32) (P' : pS) (nb : Nat) : Prop := (v.toInt < 0 ∧ sV o q f a k ∧ xPs (f 704) (f 705) (a 23) P nb ∧ f 16 = v ∧ ∀ R1, rfE C0 R1 → rfE (a 94) (rfS v.toInt R1)) ∨ (¬ v.toInt < 0 ∧ sV o q f a k' ∧ xPs (f 704) (f 705) (a 23) P' nb ∧ f 16 = 0 ∧ ∀ R1, rfE C0 R1 → rfE (a 94) R1)
theorem xP_no {kp nx : Int32} {R : Nat → Int32} {P : pS} {nb : Nat} (h1 : kp = 0) (h2 : nx = 0) : xPs kp nx R (noP P) nb := by
  have z : (0 : Int32).toInt = 0 := by decide +kernel
  rw [h1, h2]
  exact ⟨by rw [z]; rfl, Nat.zero_le 16, by rw [z]; decide, by rw [z]; decide, fun j hj => absurd hj (Nat.not_lt_zero j)⟩
theorem pN {ok : Prop} {v n n' : Int32} (h : prtP ok v n n') (c : v.toInt < 0) : v = -1 ∨ v = -5 := by
  rcases h with ⟨h, _⟩ | ⟨h, _⟩ | ⟨h, _, h2, _⟩
  · exact Or.inl h
  · exact Or.inr h
  · rw [h] at c; omega
theorem pBn5 {x y v b b' : Int32} (h : bldP x y v b b') (c : v.toInt < 0) : v = -1 ∨ v = -5 := by
  rcases h with ⟨h, _⟩ | ⟨h, _⟩ | ⟨h, _, h2, _⟩
  · exact Or.inl h
  · exact Or.inr h
  · rw [h] at c; omega
theorem m15 {v : Int32} (h : v = -1 ∨ v = -5) : kb (-6) v (-1) ∧ ¬ v = -4 := by
  rcases h with h | h
  · rw [h]; exact ⟨⟨by decide +kernel, by decide +kernel⟩, by decide +kernel⟩
  · rw [h]; exact ⟨⟨by decide +kernel, by decide +kernel⟩, by decide +kernel⟩
set_option maxHeartbeats 4000000 in
set_option maxRecDepth 100000 in
theorem z_pclear  (l : Launch) {D : va_G} {K : Nat → ClassId} (r : Nat → Nat) (f : Nat → Int32) (a : Nat → Nat → Int32) (g : xG) (tx tt : va_W) (hT : ∀ c ∈ tt, c ∈ tx) (hI : xI f a) (hG : gOK K g.2 tt)     : kVG l yX2_clear (Cond.code yX2_clear cX2_clear 1 none :: kG) (rmD 1 0 0) D K [.ref (r 22)] (xX K r f a g tx) (fun (u : xS) => xI u.1 u.2.1 ∧ gOK K u.2.2.2 tt ∧ xEk ([704, 705], [], []) f a g u.1 u.2.1 u.2.2 ∧ (u.1 704 = 0 ∧ u.1 705 = 0)) (fun u => xX K r u.1 u.2.1 u.2.2 tx) 0 0 := by
  refine kVG.of (cc := cX2_clear) (maxL := 1) (ret := none) (by decide) rfl (Nat.le_of_ble_eq_true rfl) ?_
  intro p e s m below meth c A hx hb hr hml hown hts hlocks hnm hK hP hD hS hA hV ls hl
  have hE : xEk ([704, 705], [], []) f a g f a g := xEk_rf
  have hg : ∀ w ∈ kG, w.before _ s = true := fun w h => hts w (List.mem_cons_of_mem _ h)
  have hown : s.vm.findClass RX2 = some m.cls := hown
  have hl : lv_has ls 1 [(0, .ref (r 22))] := hl
  refine lv_aload_n hx hb dX2_clear_0 rfl (lv_at hl 0 rfl) ?_
  refine lv_iconst (v := 0) hx hb dX2_clear_1 (by decide) ?_
  refine va_put (D := D) (ci := 2) (v := .int 0) (ty := .int) (C := RX2) (T := TX2) (N := 3) hx hb hg inC2 tyX2 tyX2_ok nmX2 hown hK hP hD hS 22 rfl rfl 0 (by decide) (hg _ wt1_205) (fun _ h9 => h9) rfl (by decide +kernel) rfl rfl (Nat.le_of_ble_eq_true rfl) dX2_clear_2 (fun H locs hP hD hS => ?_)
  have hP : va_P D vwCl (xX K r (upd f 704 0) a g tx) H := hP
  have hD : va_D A (xX K r (upd f 704 0) a g tx) := hD
  refine k_gen (P := fun z => va_P D vwCl (xX K r z a g tx) H ∧ va_D A (xX K r z a g tx) ∧ (xI z a) ∧ (gOK K g.2 tt) ∧ (xEk ([704, 705], [], []) f a g z a g)) (upd f 704 0) ⟨hP, hD, (xI_f hI (fI_st hI.1 704 (kb_any _) (by decide) (by decide))), hG, (xEk_f hE rfl)⟩ (fun f_1 ef_1 hq => ?_)
  obtain ⟨hP, hD, hI, hG, hE⟩ := hq
  refine lv_aload_n hx hb dX2_clear_5 rfl (lv_at hl 0 rfl) ?_
  refine lv_iconst (v := 0) hx hb dX2_clear_6 (by decide) ?_
  refine va_put (D := D) (ci := 2) (v := .int 0) (ty := .int) (C := RX2) (T := TX2) (N := 3) hx hb hg inC2 tyX2 tyX2_ok nmX2 hown hK hP hD hS 22 rfl rfl 1 (by decide) (hg _ wt1_207) (fun _ h9 => h9) rfl (by decide +kernel) rfl rfl (Nat.le_of_ble_eq_true rfl) dX2_clear_7 (fun H locs hP hD hS => ?_)
  have hP : va_P D vwCl (xX K r (upd f_1 705 0) a g tx) H := hP
  have hD : va_D A (xX K r (upd f_1 705 0) a g tx) := hD
  refine k_gen (P := fun z => va_P D vwCl (xX K r z a g tx) H ∧ va_D A (xX K r z a g tx) ∧ (xI z a) ∧ (gOK K g.2 tt) ∧ (xEk ([704, 705], [], []) f a g z a g)) (upd f_1 705 0) ⟨hP, hD, (xI_f hI (fI_st hI.1 705 kc_0 (by decide) (by decide))), hG, (xEk_f hE rfl)⟩ (fun f_2 ef_2 hq => ?_)
  obtain ⟨hP, hD, hI, hG, hE⟩ := hq
  exact kV_ret hx hb hr hlocks hK hS dX2_clear_10 (f_2, a, g) hP hD ⟨hI, hG, hE, ⟨((show f_2 704 = f_1 704 from by rw [← ef_2]; rfl).trans (show f_1 704 = 0 from by rw [← ef_1]; rfl)), (show f_2 705 = 0 from by rw [← ef_2]; rfl)⟩⟩
set_option maxHeartbeats 4000000 in
set_option maxRecDepth 100000 in
theorem z_addPart  (l : Launch) {D : va_G} {K : Nat → ClassId} (r : Nat → Nat) (f : Nat → Int32) (a : Nat → Nat → Int32) (g : xG) (tx tt : va_W) (hT : ∀ c ∈ tt, c ∈ tx) (hI : xI f a) (hG : gOK K g.2 tt) (x : Int32) (y : Int32) (z : Int32) (t_ : Int32)  (k : Nat → Int32) (hVw : sV 32 2 f a k) (hkk : kK k)   : kIG l yX7_addPart (Cond.code yX7_addPart cX7_addPart 6 (some .int) :: kG) (rmD 1 0 0) D K [.ref (r 1), .int x, .int y, .int z, .int t_] (xX K r f a g tx) (fun v (u : xS) => kb (-2147483648) v 2147483647 ∧ xI u.1 u.2.1 ∧ gOK K u.2.2.2 tt ∧ xEk ([32], [2, 3, 4, 5, 6], []) f a g u.1 u.2.1 u.2.2 ∧ prtP (okPx x y z t_ (f 32)) v (f 32) (u.1 32) ∧ ((v.toInt < 0 ∧ sV 32 2 u.1 u.2.1 k) ∨ (¬ v.toInt < 0 ∧ sV 32 2 u.1 u.2.1 (prtK k (k 102).toInt.toNat x y z t_)))) (fun u => xX K r u.1 u.2.1 u.2.2 tx) 0 0 := by
  refine kIE.of (cc := cX7_addPart) (maxL := 6) (ret := (some .int)) (by decide) rfl (Nat.le_of_ble_eq_true rfl) ?_
  intro p e s m below meth c A hx hb hr hml hown hts hlocks hnm hK hP hD hS hA hV ls hl
  have hE : xEk ([32], [2, 3, 4, 5, 6], []) f a g f a g := xEk_rf
  have hg : ∀ w ∈ kG, w.before _ s = true := fun w h => hts w (List.mem_cons_of_mem _ h)
  have hown : s.vm.findClass RX7 = some m.cls := hown
  have hl : lv_has ls 6 [(0, .ref (r 1)), (1, .int x), (2, .int y), (3, .int z), (4, .int t_)] := hl
  obtain ⟨c32, ec32⟩ : ∃ z : Int32, z = f 32 := ⟨_, rfl⟩
  have b1 : kb 0 c32 10 := kb_eq ec32 (fI_at hI.1 32 (by decide) (by decide))
  refine lv_iload_n hx hb dX7_addPart_0 rfl (lv_at hl 2 rfl) ?_
  refine lv_iconst (v := (-1)) hx hb dX7_addPart_1 (by decide) ?_
  refine lv_aload_n hx hb dX7_addPart_2 rfl (lv_at hl 0 rfl) ?_
  refine va_get (D := D) (ci := 7) (v := .int (f 32)) (C := RX7) (T := TX7) (N := 20) hx hb hg inC7 hown hK hP 1 rfl rfl 0 (by decide) (hg _ wt1_79) (fun _ h9 => h9) rfl dX7_addPart_3 ?_
  refine k_top (z := c32) ec32.symm ?_
  refine lv_ishl hx hb dX7_addPart_6 ?_
  refine lv_topi (fun t2 et2 => ?_)
  refine lv_iand hx hb dX7_addPart_7 ?_
  refine lv_topi (fun t3 et3 => ?_)
  refine lv_if_ne (tgt := 15) hx hb dX7_addPart_8 (by decide) (fun c4 => ?_) (fun c4 => ?_)
  · refine lv_iconst (v := 0) hx hb dX7_addPart_15 (by decide) ?_
    refine lv_istore (lv' := [(5, .int 0), (0, .ref (r 1)), (1, .int x), (2, .int y), (3, .int z), (4, .int t_)]) hx hb dX7_addPart_16 hl (by decide) rfl (fun ls hl => ?_)
    refine lv_iload_n hx hb dX7_addPart_18 rfl (lv_at hl 2 rfl) ?_
    refine lv_iconst (v := 1) hx hb dX7_addPart_19 (by decide) ?_
    refine lv_icmp_lt (tgt := 55) hx hb dX7_addPart_20 (by decide) (fun c5 => ?_) (fun c5 => ?_)
    · have h6 := (kc_lt c5)
      have b7 : kb (-2147483648) x 0 := kr_lt1 h6 (kb_any x) kc_1 (by decide)
      refine lv_iconst (v := (-1)) hx hb dX7_addPart_55 (by decide) ?_
      exact kI_ret (v := (-1)) hx hb hr hlocks rfl hK hS dX7_addPart_56 (f, a, g) hP hD ⟨(kb_w kc_m1 (by decide) (by decide)), hI, hG, hE, (Or.inl ⟨rfl, (fun q => by have w1 := (b7).1; have w2 := (b7).2; have w3 := ((kb_any z)).1; have w4 := ((kb_any z)).2; have w5 := ((kb_any t_)).1; have w6 := ((kb_any t_)).2; have q1 := q.1; have q2 := q.2.2.1; have q3 := q.2.2.2; omega), ((ec32.symm).trans ec32)⟩), (Or.inl ⟨by decide +kernel, by show sV 32 2 f a k; exact sV_cg hVw rfl rfl rfl rfl rfl (fun j hj => rfl)⟩)⟩
    · have h8 := (kc_nlt c5)
      have b9 : kb 1 x 2147483647 := kr_le2 h8 kc_1 (kb_any x)
      refine lv_iload_n hx hb dX7_addPart_23 rfl (lv_at hl 2 rfl) ?_
      refine lv_bipush (v := 99) hx hb dX7_addPart_24 (by decide) ?_
      refine lv_icmp_gt (tgt := 55) hx hb dX7_addPart_26 (by decide) (fun c10 => ?_) (fun c10 => ?_)
      · have h11 := (kc_lt c10)
        have b12 : kb 100 x 2147483647 := kr_lt2 h11 kc_99 b9 (by decide)
        refine lv_iconst (v := (-1)) hx hb dX7_addPart_55 (by decide) ?_
        exact kI_ret (v := (-1)) hx hb hr hlocks rfl hK hS dX7_addPart_56 (f, a, g) hP hD ⟨(kb_w kc_m1 (by decide) (by decide)), hI, hG, hE, (Or.inl ⟨rfl, (fun q => by have w1 := (b12).1; have w2 := (b12).2; have w3 := ((kb_any z)).1; have w4 := ((kb_any z)).2; have w5 := ((kb_any t_)).1; have w6 := ((kb_any t_)).2; have q1 := q.1; have q2 := q.2.2.1; have q3 := q.2.2.2; omega), ((ec32.symm).trans ec32)⟩), (Or.inl ⟨by decide +kernel, by show sV 32 2 f a k; exact sV_cg hVw rfl rfl rfl rfl rfl (fun j hj => rfl)⟩)⟩
      · have h13 := (kc_nlt c10)
        have b14 : kb 1 x 99 := kr_le1 h13 b9 kc_99
        refine lv_iload hx hb dX7_addPart_29 (lv_at hl 0 rfl) ?_
        refine lv_if_eq (tgt := 55) hx hb dX7_addPart_31 (by decide) (fun c15 => ?_) (fun c15 => ?_)
        · refine lv_iconst (v := (-1)) hx hb dX7_addPart_55 (by decide) ?_
          exact kI_ret (v := (-1)) hx hb hr hlocks rfl hK hS dX7_addPart_56 (f, a, g) hP hD ⟨(kb_w kc_m1 (by decide) (by decide)), hI, hG, hE, (Or.inl ⟨rfl, (fun q => c4 (by rw [et3, et2, ec32]; exact q.2.1)), ((ec32.symm).trans ec32)⟩), (Or.inl ⟨by decide +kernel, by show sV 32 2 f a k; exact sV_cg hVw rfl rfl rfl rfl rfl (fun j hj => rfl)⟩)⟩
        · exact kb_nsame c15 kc_0 kc_0
  · have b16 : kb 0 t3 0 := kb_eq c4 kc_0
    refine lv_iconst (v := 1) hx hb dX7_addPart_11 (by decide) ?_
    refine lv_goto (tgt := 16) hx hb dX7_addPart_12 (by decide) ?_
    refine lv_istore (lv' := [(5, .int 1), (0, .ref (r 1)), (1, .int x), (2, .int y), (3, .int z), (4, .int t_)]) hx hb dX7_addPart_16 hl (by decide) rfl (fun ls hl => ?_)
    refine lv_iload_n hx hb dX7_addPart_18 rfl (lv_at hl 2 rfl) ?_
    refine lv_iconst (v := 1) hx hb dX7_addPart_19 (by decide) ?_
    refine lv_icmp_lt (tgt := 55) hx hb dX7_addPart_20 (by decide) (fun c17 => ?_) (fun c17 => ?_)
    · have h18 := (kc_lt c17)
      have b19 : kb (-2147483648) x 0 := kr_lt1 h18 (kb_any x) kc_1 (by decide)
      refine lv_iconst (v := (-1)) hx hb dX7_addPart_55 (by decide) ?_
      exact kI_ret (v := (-1)) hx hb hr hlocks rfl hK hS dX7_addPart_56 (f, a, g) hP hD ⟨(kb_w kc_m1 (by decide) (by decide)), hI, hG, hE, (Or.inl ⟨rfl, (fun q => by have w1 := (b19).1; have w2 := (b19).2; have w3 := ((kb_any z)).1; have w4 := ((kb_any z)).2; have w5 := ((kb_any t_)).1; have w6 := ((kb_any t_)).2; have q1 := q.1; have q2 := q.2.2.1; have q3 := q.2.2.2; omega), ((ec32.symm).trans ec32)⟩), (Or.inl ⟨by decide +kernel, by show sV 32 2 f a k; exact sV_cg hVw rfl rfl rfl rfl rfl (fun j hj => rfl)⟩)⟩
    · have h20 := (kc_nlt c17)
      have b21 : kb 1 x 2147483647 := kr_le2 h20 kc_1 (kb_any x)
      refine lv_iload_n hx hb dX7_addPart_23 rfl (lv_at hl 2 rfl) ?_
      refine lv_bipush (v := 99) hx hb dX7_addPart_24 (by decide) ?_
      refine lv_icmp_gt (tgt := 55) hx hb dX7_addPart_26 (by decide) (fun c22 => ?_) (fun c22 => ?_)
      · have h23 := (kc_lt c22)
        have b24 : kb 100 x 2147483647 := kr_lt2 h23 kc_99 b21 (by decide)
        refine lv_iconst (v := (-1)) hx hb dX7_addPart_55 (by decide) ?_
        exact kI_ret (v := (-1)) hx hb hr hlocks rfl hK hS dX7_addPart_56 (f, a, g) hP hD ⟨(kb_w kc_m1 (by decide) (by decide)), hI, hG, hE, (Or.inl ⟨rfl, (fun q => by have w1 := (b24).1; have w2 := (b24).2; have w3 := ((kb_any z)).1; have w4 := ((kb_any z)).2; have w5 := ((kb_any t_)).1; have w6 := ((kb_any t_)).2; have q1 := q.1; have q2 := q.2.2.1; have q3 := q.2.2.2; omega), ((ec32.symm).trans ec32)⟩), (Or.inl ⟨by decide +kernel, by show sV 32 2 f a k; exact sV_cg hVw rfl rfl rfl rfl rfl (fun j hj => rfl)⟩)⟩
      · have h25 := (kc_nlt c22)
        have b26 : kb 1 x 99 := kr_le1 h25 b21 kc_99
        refine lv_iload hx hb dX7_addPart_29 (lv_at hl 0 rfl) ?_
        refine lv_if_eq (tgt := 55) hx hb dX7_addPart_31 (by decide) (fun c27 => ?_) (fun c27 => ?_)
        · exact kb_dj c27 kc_1 kc_0 (by decide)
        · refine lv_iload_n hx hb dX7_addPart_34 rfl (lv_at hl 4 rfl) ?_
          refine lv_if_lt (tgt := 55) hx hb dX7_addPart_35 (by decide) (fun c28 => ?_) (fun c28 => ?_)
          · have h29 := (kc_lt c28)
            have b30 : kb (-2147483648) z (-1) := kr_lt1 h29 (kb_any z) kc_0 (by decide)
            refine lv_iconst (v := (-1)) hx hb dX7_addPart_55 (by decide) ?_
            exact kI_ret (v := (-1)) hx hb hr hlocks rfl hK hS dX7_addPart_56 (f, a, g) hP hD ⟨(kb_w kc_m1 (by decide) (by decide)), hI, hG, hE, (Or.inl ⟨rfl, (fun q => by have w1 := (b26).1; have w2 := (b26).2; have w3 := (b30).1; have w4 := (b30).2; have w5 := ((kb_any t_)).1; have w6 := ((kb_any t_)).2; have q1 := q.1; have q2 := q.2.2.1; have q3 := q.2.2.2; omega), ((ec32.symm).trans ec32)⟩), (Or.inl ⟨by decide +kernel, by show sV 32 2 f a k; exact sV_cg hVw rfl rfl rfl rfl rfl (fun j hj => rfl)⟩)⟩
          · have h31 := (kc_nlt c28)
            have b32 : kb 0 z 2147483647 := kr_le2 h31 kc_0 (kb_any z)
            refine lv_iload_n hx hb dX7_addPart_38 rfl (lv_at hl 4 rfl) ?_
            refine lv_iconst (v := 4) hx hb dX7_addPart_39 (by decide) ?_
            refine lv_icmp_ge (tgt := 55) hx hb dX7_addPart_40 (by decide) (fun c33 => ?_) (fun c33 => ?_)
            · have h34 := (kc_le c33)
              have b35 : kb 4 z 2147483647 := kr_le2 h34 kc_4 b32
              refine lv_iconst (v := (-1)) hx hb dX7_addPart_55 (by decide) ?_
              exact kI_ret (v := (-1)) hx hb hr hlocks rfl hK hS dX7_addPart_56 (f, a, g) hP hD ⟨(kb_w kc_m1 (by decide) (by decide)), hI, hG, hE, (Or.inl ⟨rfl, (fun q => by have w1 := (b26).1; have w2 := (b26).2; have w3 := (b35).1; have w4 := (b35).2; have w5 := ((kb_any t_)).1; have w6 := ((kb_any t_)).2; have q1 := q.1; have q2 := q.2.2.1; have q3 := q.2.2.2; omega), ((ec32.symm).trans ec32)⟩), (Or.inl ⟨by decide +kernel, by show sV 32 2 f a k; exact sV_cg hVw rfl rfl rfl rfl rfl (fun j hj => rfl)⟩)⟩
            · have h36 := (kc_nle c33)
              have b37 : kb 0 z 3 := kr_lt1 h36 b32 kc_4 (by decide)
              refine lv_iload hx hb dX7_addPart_43 (lv_at hl 5 rfl) ?_
              refine lv_if_lt (tgt := 55) hx hb dX7_addPart_45 (by decide) (fun c38 => ?_) (fun c38 => ?_)
              · have h39 := (kc_lt c38)
                have b40 : kb (-2147483648) t_ (-1) := kr_lt1 h39 (kb_any t_) kc_0 (by decide)
                refine lv_iconst (v := (-1)) hx hb dX7_addPart_55 (by decide) ?_
                exact kI_ret (v := (-1)) hx hb hr hlocks rfl hK hS dX7_addPart_56 (f, a, g) hP hD ⟨(kb_w kc_m1 (by decide) (by decide)), hI, hG, hE, (Or.inl ⟨rfl, (fun q => by have w1 := (b26).1; have w2 := (b26).2; have w3 := (b37).1; have w4 := (b37).2; have w5 := (b40).1; have w6 := (b40).2; have q1 := q.1; have q2 := q.2.2.1; have q3 := q.2.2.2; omega), ((ec32.symm).trans ec32)⟩), (Or.inl ⟨by decide +kernel, by show sV 32 2 f a k; exact sV_cg hVw rfl rfl rfl rfl rfl (fun j hj => rfl)⟩)⟩
              · have h41 := (kc_nlt c38)
                have b42 : kb 0 t_ 2147483647 := kr_le2 h41 kc_0 (kb_any t_)
                refine lv_iload hx hb dX7_addPart_48 (lv_at hl 5 rfl) ?_
                refine lv_bipush (v := 9) hx hb dX7_addPart_50 (by decide) ?_
                refine lv_icmp_le (tgt := 57) hx hb dX7_addPart_52 (by decide) (fun c43 => ?_) (fun c43 => ?_)
                · have h44 := (kc_le c43)
                  have b45 : kb 0 t_ 9 := kr_le1 h44 b42 kc_9
                  refine lv_aload_n hx hb dX7_addPart_57 rfl (lv_at hl 1 rfl) ?_
                  refine va_get (D := D) (ci := 7) (v := .int (f 32)) (C := RX7) (T := TX7) (N := 20) hx hb hg inC7 hown hK hP 1 rfl rfl 0 (by decide) (hg _ wt1_79) (fun _ h9 => h9) rfl dX7_addPart_58 ?_
                  refine k_top (z := c32) ec32.symm ?_
                  refine lv_if_lt (tgt := 73) hx hb dX7_addPart_61 (by decide) (fun c46 => ?_) (fun c46 => ?_)
                  · have h47 := (kc_lt c46)
                    exact kb_no (kr_lt1 h47 b1 kc_0 (H := (-1)) (by decide)) (by decide)
                  · have h48 := (kc_nlt c46)
                    refine lv_aload_n hx hb dX7_addPart_64 rfl (lv_at hl 1 rfl) ?_
                    refine va_get (D := D) (ci := 7) (v := .int (f 32)) (C := RX7) (T := TX7) (N := 20) hx hb hg inC7 hown hK hP 1 rfl rfl 0 (by decide) (hg _ wt1_79) (fun _ h9 => h9) rfl dX7_addPart_65 ?_
                    refine k_top (z := c32) ec32.symm ?_
                    refine lv_bipush (v := 10) hx hb dX7_addPart_68 (by decide) ?_
                    refine lv_icmp_lt (tgt := 76) hx hb dX7_addPart_70 (by decide) (fun c49 => ?_) (fun c49 => ?_)
                    · have h50 := (kc_lt c49)
                      have b51 : kb 0 c32 9 := kr_lt1 h50 b1 kc_10 (by decide)
                      refine lv_aload_n hx hb dX7_addPart_76 rfl (lv_at hl 1 rfl) ?_
                      refine va_get (D := D) (ci := 7) (v := .ref (r 2)) (C := RX7) (T := TX7) (N := 20) hx hb hg inC7 hown hK hP 1 rfl rfl 1 (by decide) (hg _ wt1_86) (fun _ h9 => h9) rfl dX7_addPart_77 ?_
                      refine lv_aload_n hx hb dX7_addPart_80 rfl (lv_at hl 1 rfl) ?_
                      refine va_get (D := D) (ci := 7) (v := .int (f 32)) (C := RX7) (T := TX7) (N := 20) hx hb hg inC7 hown hK hP 1 rfl rfl 0 (by decide) (hg _ wt1_79) (fun _ h9 => h9) rfl dX7_addPart_81 ?_
                      refine k_top (z := c32) ec32.symm ?_
                      refine lv_iload_n hx hb dX7_addPart_84 rfl (lv_at hl 2 rfl) ?_
                      refine va_iast hx hb hK hP hD hS 2 0 rfl rfl (kb_in b51 (by decide) (by decide)) dX7_addPart_85 (fun H locs hP hD hS => ?_)
                      have hP : va_P D vwCl (xX K r f (va_up a 2 (upd (a 2) c32.toNatClampNeg x)) g tx) H := hP
                      have hD : va_D A (xX K r f (va_up a 2 (upd (a 2) c32.toNatClampNeg x)) g tx) := hD
                      refine k_gen (P := fun z => va_P D vwCl (xX K r f z g tx) H ∧ va_D A (xX K r f z g tx) ∧ (xI f z) ∧ (gOK K g.2 tt) ∧ (xEk ([32], [2, 3, 4, 5, 6], []) f a g f z g)) (va_up a 2 (upd (a 2) c32.toNatClampNeg x)) ⟨hP, hD, (xI_a hI (by decide)), hG, (xEk_a hE rfl)⟩ (fun a_52 ea_52 hq => ?_)
                      obtain ⟨hP, hD, hI, hG, hE⟩ := hq
                      refine lv_aload_n hx hb dX7_addPart_86 rfl (lv_at hl 1 rfl) ?_
                      refine va_get (D := D) (ci := 7) (v := .ref (r 3)) (C := RX7) (T := TX7) (N := 20) hx hb hg inC7 hown hK hP 1 rfl rfl 2 (by decide) (hg _ wt1_89) (fun _ h9 => h9) rfl dX7_addPart_87 ?_
                      refine lv_aload_n hx hb dX7_addPart_90 rfl (lv_at hl 1 rfl) ?_
                      refine va_get (D := D) (ci := 7) (v := .int (f 32)) (C := RX7) (T := TX7) (N := 20) hx hb hg inC7 hown hK hP 1 rfl rfl 0 (by decide) (hg _ wt1_79) (fun _ h9 => h9) rfl dX7_addPart_91 ?_
                      refine k_top (z := c32) ec32.symm ?_
                      refine lv_iload_n hx hb dX7_addPart_94 rfl (lv_at hl 3 rfl) ?_
                      refine va_iast hx hb hK hP hD hS 3 0 rfl rfl (kb_in b51 (by decide) (by decide)) dX7_addPart_95 (fun H locs hP hD hS => ?_)
                      have hP : va_P D vwCl (xX K r f (va_up a_52 3 (upd (a_52 3) c32.toNatClampNeg y)) g tx) H := hP
                      have hD : va_D A (xX K r f (va_up a_52 3 (upd (a_52 3) c32.toNatClampNeg y)) g tx) := hD
                      refine k_gen (P := fun z => va_P D vwCl (xX K r f z g tx) H ∧ va_D A (xX K r f z g tx) ∧ (xI f z) ∧ (gOK K g.2 tt) ∧ (xEk ([32], [2, 3, 4, 5, 6], []) f a g f z g)) (va_up a_52 3 (upd (a_52 3) c32.toNatClampNeg y)) ⟨hP, hD, (xI_a hI (by decide)), hG, (xEk_a hE rfl)⟩ (fun a_53 ea_53 hq => ?_)
                      obtain ⟨hP, hD, hI, hG, hE⟩ := hq
                      refine lv_aload_n hx hb dX7_addPart_96 rfl (lv_at hl 1 rfl) ?_
                      refine va_get (D := D) (ci := 7) (v := .ref (r 4)) (C := RX7) (T := TX7) (N := 20) hx hb hg inC7 hown hK hP 1 rfl rfl 3 (by decide) (hg _ wt1_93) (fun _ h9 => h9) rfl dX7_addPart_97 ?_
                      refine lv_aload_n hx hb dX7_addPart_100 rfl (lv_at hl 1 rfl) ?_
                      refine va_get (D := D) (ci := 7) (v := .int (f 32)) (C := RX7) (T := TX7) (N := 20) hx hb hg inC7 hown hK hP 1 rfl rfl 0 (by decide) (hg _ wt1_79) (fun _ h9 => h9) rfl dX7_addPart_101 ?_
                      refine k_top (z := c32) ec32.symm ?_
                      refine lv_iload_n hx hb dX7_addPart_104 rfl (lv_at hl 4 rfl) ?_
                      refine va_iast hx hb hK hP hD hS 4 0 rfl rfl (kb_in b51 (by decide) (by decide)) dX7_addPart_105 (fun H locs hP hD hS => ?_)
                      have hP : va_P D vwCl (xX K r f (va_up a_53 4 (upd (a_53 4) c32.toNatClampNeg z)) g tx) H := hP
                      have hD : va_D A (xX K r f (va_up a_53 4 (upd (a_53 4) c32.toNatClampNeg z)) g tx) := hD
                      refine k_gen (P := fun z => va_P D vwCl (xX K r f z g tx) H ∧ va_D A (xX K r f z g tx) ∧ (xI f z) ∧ (gOK K g.2 tt) ∧ (xEk ([32], [2, 3, 4, 5, 6], []) f a g f z g)) (va_up a_53 4 (upd (a_53 4) c32.toNatClampNeg z)) ⟨hP, hD, (xI_a hI (by decide)), hG, (xEk_a hE rfl)⟩ (fun a_54 ea_54 hq => ?_)
                      obtain ⟨hP, hD, hI, hG, hE⟩ := hq
                      refine lv_aload_n hx hb dX7_addPart_106 rfl (lv_at hl 1 rfl) ?_
                      refine va_get (D := D) (ci := 7) (v := .ref (r 5)) (C := RX7) (T := TX7) (N := 20) hx hb hg inC7 hown hK hP 1 rfl rfl 4 (by decide) (hg _ wt1_95) (fun _ h9 => h9) rfl dX7_addPart_107 ?_
                      refine lv_aload_n hx hb dX7_addPart_110 rfl (lv_at hl 1 rfl) ?_
                      refine va_get (D := D) (ci := 7) (v := .int (f 32)) (C := RX7) (T := TX7) (N := 20) hx hb hg inC7 hown hK hP 1 rfl rfl 0 (by decide) (hg _ wt1_79) (fun _ h9 => h9) rfl dX7_addPart_111 ?_
                      refine k_top (z := c32) ec32.symm ?_
                      refine lv_iload hx hb dX7_addPart_114 (lv_at hl 5 rfl) ?_
                      refine va_iast hx hb hK hP hD hS 5 0 rfl rfl (kb_in b51 (by decide) (by decide)) dX7_addPart_116 (fun H locs hP hD hS => ?_)
                      have hP : va_P D vwCl (xX K r f (va_up a_54 5 (upd (a_54 5) c32.toNatClampNeg t_)) g tx) H := hP
                      have hD : va_D A (xX K r f (va_up a_54 5 (upd (a_54 5) c32.toNatClampNeg t_)) g tx) := hD
                      refine k_gen (P := fun z => va_P D vwCl (xX K r f z g tx) H ∧ va_D A (xX K r f z g tx) ∧ (xI f z) ∧ (gOK K g.2 tt) ∧ (xEk ([32], [2, 3, 4, 5, 6], []) f a g f z g)) (va_up a_54 5 (upd (a_54 5) c32.toNatClampNeg t_)) ⟨hP, hD, (xI_a hI (by decide)), hG, (xEk_a hE rfl)⟩ (fun a_55 ea_55 hq => ?_)
                      obtain ⟨hP, hD, hI, hG, hE⟩ := hq
                      refine lv_aload_n hx hb dX7_addPart_117 rfl (lv_at hl 1 rfl) ?_
                      refine va_get (D := D) (ci := 7) (v := .ref (r 6)) (C := RX7) (T := TX7) (N := 20) hx hb hg inC7 hown hK hP 1 rfl rfl 5 (by decide) (hg _ wt1_97) (fun _ h9 => h9) rfl dX7_addPart_118 ?_
                      refine lv_aload_n hx hb dX7_addPart_121 rfl (lv_at hl 1 rfl) ?_
                      refine va_get (D := D) (ci := 7) (v := .int (f 32)) (C := RX7) (T := TX7) (N := 20) hx hb hg inC7 hown hK hP 1 rfl rfl 0 (by decide) (hg _ wt1_79) (fun _ h9 => h9) rfl dX7_addPart_122 ?_
                      refine k_top (z := c32) ec32.symm ?_
                      refine lv_iload_n hx hb dX7_addPart_125 rfl (lv_at hl 2 rfl) ?_
                      refine va_iast hx hb hK hP hD hS 6 0 rfl rfl (kb_in b51 (by decide) (by decide)) dX7_addPart_126 (fun H locs hP hD hS => ?_)
                      have hP : va_P D vwCl (xX K r f (va_up a_55 6 (upd (a_55 6) c32.toNatClampNeg x)) g tx) H := hP
                      have hD : va_D A (xX K r f (va_up a_55 6 (upd (a_55 6) c32.toNatClampNeg x)) g tx) := hD
                      refine k_gen (P := fun z => va_P D vwCl (xX K r f z g tx) H ∧ va_D A (xX K r f z g tx) ∧ (xI f z) ∧ (gOK K g.2 tt) ∧ (xEk ([32], [2, 3, 4, 5, 6], []) f a g f z g)) (va_up a_55 6 (upd (a_55 6) c32.toNatClampNeg x)) ⟨hP, hD, (xI_a hI (by decide)), hG, (xEk_a hE rfl)⟩ (fun a_56 ea_56 hq => ?_)
                      obtain ⟨hP, hD, hI, hG, hE⟩ := hq
                      refine lv_aload_n hx hb dX7_addPart_127 rfl (lv_at hl 1 rfl) ?_
                      refine lv_dup hx hb dX7_addPart_128 rfl ?_
                      refine va_get (D := D) (ci := 7) (v := .int (f 32)) (C := RX7) (T := TX7) (N := 20) hx hb hg inC7 hown hK hP 1 rfl rfl 0 (by decide) (hg _ wt1_79) (fun _ h9 => h9) rfl dX7_addPart_129 ?_
                      refine k_top (z := c32) ec32.symm ?_
                      refine lv_iconst (v := 1) hx hb dX7_addPart_132 (by decide) ?_
                      refine lv_iadd hx hb dX7_addPart_133 ?_
                      refine lv_topi (fun t57 et57 => ?_)
                      have b58 : kb 1 t57 10 := kb_eq et57 (kb_add b51 kc_1 (by decide) (by decide))
                      have qt57 : t57.toInt = c32.toInt + 1 := by rw [et57]; exact kt_addc b51 kc_1 (by decide) (by decide)
                      refine va_put (D := D) (ci := 7) (v := .int t57) (ty := .int) (C := RX7) (T := TX7) (N := 20) hx hb hg inC7 tyX7 tyX7_ok nmX7 hown hK hP hD hS 1 rfl rfl 0 (by decide) (hg _ wt1_79) (fun _ h9 => h9) rfl (by decide +kernel) rfl rfl (Nat.le_of_ble_eq_true rfl) dX7_addPart_134 (fun H locs hP hD hS => ?_)
                      have hP : va_P D vwCl (xX K r (upd f 32 t57) a_56 g tx) H := hP
                      have hD : va_D A (xX K r (upd f 32 t57) a_56 g tx) := hD
                      refine k_gen (P := fun z => va_P D vwCl (xX K r z a_56 g tx) H ∧ va_D A (xX K r z a_56 g tx) ∧ (xI z a_56) ∧ (gOK K g.2 tt) ∧ (xEk ([32], [2, 3, 4, 5, 6], []) f a g z a_56 g)) (upd f 32 t57) ⟨hP, hD, (xI_f hI (fI_st hI.1 32 b58 (by decide) (by decide))), hG, (xEk_f hE rfl)⟩ (fun f_59 ef_59 hq => ?_)
                      obtain ⟨hP, hD, hI, hG, hE⟩ := hq
                      refine lv_aload_n hx hb dX7_addPart_137 rfl (lv_at hl 1 rfl) ?_
                      refine va_get (D := D) (ci := 7) (v := .int (f_59 32)) (C := RX7) (T := TX7) (N := 20) hx hb hg inC7 hown hK hP 1 rfl rfl 0 (by decide) (hg _ wt1_79) (fun _ h9 => h9) rfl dX7_addPart_138 ?_
                      refine k_top (z := t57) (show f_59 32 = t57 from by rw [← ef_59]; rfl) ?_
                      refine lv_iconst (v := 1) hx hb dX7_addPart_141 (by decide) ?_
                      refine lv_isub hx hb dX7_addPart_142 ?_
                      refine lv_topi (fun t60 et60 => ?_)
                      have b61 : kb 0 t60 9 := kb_eq et60 (kb_sub b58 kc_1 (by decide) (by decide))
                      have qt60 : t60.toInt = t57.toInt - 1 := by rw [et60]; exact kt_subc b58 kc_1 (by decide) (by decide)
                      exact kI_ret (v := t60) hx hb hr hlocks rfl hK hS dX7_addPart_143 (f_59, a_56, g) hP hD ⟨(kb_w b61 (by decide) (by decide)), hI, hG, hE, (Or.inr (Or.inr ⟨(by rw [← ec32]; exact Int32.toInt_inj.mp (by omega)), ⟨b26, (by rw [← ec32, ← et2, ← et3]; exact c4), b37, b45⟩, (by rw [← ec32]; exact b51), (by show (f_59 32).toInt = (f 32).toInt + 1; have e1 := congrArg Int32.toInt ((show f_59 32 = t57 from by rw [← ef_59]; rfl)); have e2 := congrArg Int32.toInt ec32; omega)⟩)), (Or.inr ⟨(fun w9 => by have w1 := qt60; have w2 := qt57; have w3 := (b51).1; omega), (show sV 32 2 f_59 a_56 _ from sV_prt hVw (by rw [← sv_parts hVw, ← ec32]; have w1 := (b51).2; have w2 := (b51).1; omega) ((show f_59 32 = t57 from by rw [← ef_59]; rfl).trans (et57.trans (by rw [ec32, sv_parts hVw]))) (hE.1 38 rfl) (hE.1 44 rfl) (hE.1 49 rfl) (hE.1 50 rfl) (((show a_56 2 = a_55 2 from by rw [← ea_56]; rfl).trans ((show a_55 2 = a_54 2 from by rw [← ea_55]; rfl).trans ((show a_54 2 = a_53 2 from by rw [← ea_54]; rfl).trans ((show a_53 2 = a_52 2 from by rw [← ea_53]; rfl).trans (show a_52 2 = upd (a 2) c32.toNatClampNeg x from by rw [← ea_52]; rfl))))).trans (by rw [(show c32.toNatClampNeg = (k 102).toInt.toNat from by rw [← sv_parts hVw, ← ec32]; rfl)])) (((show a_56 3 = a_55 3 from by rw [← ea_56]; rfl).trans ((show a_55 3 = a_54 3 from by rw [← ea_55]; rfl).trans ((show a_54 3 = a_53 3 from by rw [← ea_54]; rfl).trans ((show a_53 3 = upd (a_52 3) c32.toNatClampNeg y from by rw [← ea_53]; rfl).trans (congrArg (fun zz_ => upd zz_ c32.toNatClampNeg y) (show a_52 3 = a 3 from by rw [← ea_52]; rfl)))))).trans (by rw [(show c32.toNatClampNeg = (k 102).toInt.toNat from by rw [← sv_parts hVw, ← ec32]; rfl)])) (((show a_56 4 = a_55 4 from by rw [← ea_56]; rfl).trans ((show a_55 4 = a_54 4 from by rw [← ea_55]; rfl).trans ((show a_54 4 = upd (a_53 4) c32.toNatClampNeg z from by rw [← ea_54]; rfl).trans (congrArg (fun zz_ => upd zz_ c32.toNatClampNeg z) ((show a_53 4 = a_52 4 from by rw [← ea_53]; rfl).trans (show a_52 4 = a 4 from by rw [← ea_52]; rfl)))))).trans (by rw [(show c32.toNatClampNeg = (k 102).toInt.toNat from by rw [← sv_parts hVw, ← ec32]; rfl)])) (((show a_56 5 = a_55 5 from by rw [← ea_56]; rfl).trans ((show a_55 5 = upd (a_54 5) c32.toNatClampNeg t_ from by rw [← ea_55]; rfl).trans (congrArg (fun zz_ => upd zz_ c32.toNatClampNeg t_) ((show a_54 5 = a_53 5 from by rw [← ea_54]; rfl).trans ((show a_53 5 = a_52 5 from by rw [← ea_53]; rfl).trans (show a_52 5 = a 5 from by rw [← ea_52]; rfl)))))).trans (by rw [(show c32.toNatClampNeg = (k 102).toInt.toNat from by rw [← sv_parts hVw, ← ec32]; rfl)])) (((show a_56 6 = upd (a_55 6) c32.toNatClampNeg x from by rw [← ea_56]; rfl).trans (congrArg (fun zz_ => upd zz_ c32.toNatClampNeg x) ((show a_55 6 = a_54 6 from by rw [← ea_55]; rfl).trans ((show a_54 6 = a_53 6 from by rw [← ea_54]; rfl).trans ((show a_53 6 = a_52 6 from by rw [← ea_53]; rfl).trans (show a_52 6 = a 6 from by rw [← ea_52]; rfl)))))).trans (by rw [(show c32.toNatClampNeg = (k 102).toInt.toNat from by rw [← sv_parts hVw, ← ec32]; rfl)])) (fun j h5 hj => by rcases (show j = 5 ∨ j = 6 ∨ j = 7 ∨ j = 8 ∨ j = 9 ∨ j = 10 ∨ j = 11 ∨ j = 12 by omega) with e | e | e | e | e | e | e | e <;> (subst e; exact hE.2.1 _ rfl)))⟩)⟩
                    · have h62 := (kc_nlt c49)
                      have b63 : kb 10 c32 10 := kr_le2 h62 kc_10 b1
                      refine lv_bipush (v := (-5)) hx hb dX7_addPart_73 (by decide) ?_
                      exact kI_ret (v := (-5)) hx hb hr hlocks rfl hK hS dX7_addPart_75 (f, a, g) hP hD ⟨(kb_w kc_m5 (by decide) (by decide)), hI, hG, hE, (Or.inr (Or.inl ⟨rfl, ⟨b26, (by rw [← ec32, ← et2, ← et3]; exact c4), b37, b45⟩, (by rw [← ec32]; have w1 := (b63).1; have w2 := (b63).2; omega), ((ec32.symm).trans ec32)⟩)), (Or.inl ⟨by decide +kernel, by show sV 32 2 f a k; exact sV_cg hVw rfl rfl rfl rfl rfl (fun j hj => rfl)⟩)⟩
                · have h64 := (kc_nle c43)
                  have b65 : kb 10 t_ 2147483647 := kr_lt2 h64 kc_9 b42 (by decide)
                  refine lv_iconst (v := (-1)) hx hb dX7_addPart_55 (by decide) ?_
                  exact kI_ret (v := (-1)) hx hb hr hlocks rfl hK hS dX7_addPart_56 (f, a, g) hP hD ⟨(kb_w kc_m1 (by decide) (by decide)), hI, hG, hE, (Or.inl ⟨rfl, (fun q => by have w1 := (b26).1; have w2 := (b26).2; have w3 := (b37).1; have w4 := (b37).2; have w5 := (b65).1; have w6 := (b65).2; have q1 := q.1; have q2 := q.2.2.1; have q3 := q.2.2.2; omega), ((ec32.symm).trans ec32)⟩), (Or.inl ⟨by decide +kernel, by show sV 32 2 f a k; exact sV_cg hVw rfl rfl rfl rfl rfl (fun j hj => rfl)⟩)⟩
set_option maxHeartbeats 4000000 in
set_option maxRecDepth 100000 in
theorem z_part  (l : Launch) {D : va_G} {K : Nat → ClassId} (r : Nat → Nat) (f : Nat → Int32) (a : Nat → Nat → Int32) (g : xG) (tx tt : va_W) (hT : ∀ c ∈ tt, c ∈ tx) (hI : xI f a) (hG : gOK K g.2 tt) (x : Int32) (y : Int32) (z : Int32) (t_ : Int32)  (k : Nat → Int32) (hVw : sV 32 2 f a k) (hkk : kK k) (P : pS) (hp0 : xPs (f 704) (f 705) (a 23) P (kBn k)) : kIG l yX11_part (Cond.code yX11_part cX11_part 6 (some .int) :: kG) (rmD 3 0 0) D K [.ref (r 0), .int x, .int y, .int z, .int t_] (xX K r f a g tx) (fun v (u : xS) => kb (-2147483648) v 2147483647 ∧ xI u.1 u.2.1 ∧ gOK K u.2.2.2 tt ∧ xEk ([16, 32, 704, 705, 2565, 2566, 2786], [2, 3, 4, 5, 6, 81, 94], []) f a g u.1 u.2.1 u.2.2 ∧ prtP (okPx x y z t_ (f 32)) v (f 32) (u.1 32) ∧ xTe 32 2 v u.1 u.2.1 (a 94) k P (prtK k (k 102).toInt.toNat x y z t_) (noP P) (kBn k)) (fun u => xX K r u.1 u.2.1 u.2.2 tx) 0 0 := by
  refine kIE.of (cc := cX11_part) (maxL := 6) (ret := (some .int)) (by decide) rfl (Nat.le_of_ble_eq_true rfl) ?_
  intro p e s m below meth c A hx hb hr hml hown hts hlocks hnm hK hP hD hS hA hV ls hl
  have hE : xEk ([16, 32, 704, 705, 2565, 2566, 2786], [2, 3, 4, 5, 6, 81, 94], []) f a g f a g := xEk_rf
  have hg : ∀ w ∈ kG, w.before _ s = true := fun w h => hts w (List.mem_cons_of_mem _ h)
  have hown : s.vm.findClass RX11 = some m.cls := hown
  have hl : lv_has ls 6 [(0, .ref (r 0)), (1, .int x), (2, .int y), (3, .int z), (4, .int t_)] := hl
  refine lv_aload_n hx hb dX11_part_0 rfl (lv_at hl 0 rfl) ?_
  refine va_get (D := D) (ci := 11) (v := .ref (r 1)) (C := RX11) (T := TX11) (N := 17) hx hb hg inC11 hown hK hP 0 rfl rfl 0 (by decide) (hg _ wt2_186) (fun _ h9 => h9) rfl dX11_part_1 ?_
  refine lv_iload_n hx hb dX11_part_4 rfl (lv_at hl 1 rfl) ?_
  refine lv_iload_n hx hb dX11_part_5 rfl (lv_at hl 2 rfl) ?_
  refine lv_iload_n hx hb dX11_part_6 rfl (lv_at hl 3 rfl) ?_
  refine lv_iload hx hb dX11_part_7 (lv_at hl 4 rfl) ?_
  refine kIG.callW (As := [.int x, .int y, .int z, .int t_]) (rest := []) ⟨hx, hb, hml, hown, hg⟩ (z_addPart l r f a g tx tt hT hI hG x y z t_  k hVw hkk ) (cwV 4 hg (kgV wt3_3 wt3_4 wt3_5 wt1_2 wt3_6) rfl rfl rfl (by decide +kernel) ⟨by decide, by decide⟩) hV hK hP hD hS hA (1) 7 rfl rfl rfl hl.1 rfl (Nat.le_of_ble_eq_true rfl) dX11_part_9 ⟨Nat.le_refl _, Nat.le_refl _⟩ (fun v2 u3 H locs hw1 hP hD hS => ?_)
  obtain ⟨f4, a5, g6⟩ := u3
  have hP : va_P D vwCl (xX K r f4 a5 g6 tx) H := hP
  have hD : va_D A (xX K r f4 a5 g6 tx) := hD
  have hI : xI f4 a5 := hw1.2.1
  have hG : gOK K g6.2 tt := hw1.2.2.1
  have eE7 : xEk ([32], [2, 3, 4, 5, 6], []) f a g f4 a5 g6 := hw1.2.2.2.1
  have hE : xEk ([16, 32, 704, 705, 2565, 2566, 2786], [2, 3, 4, 5, 6, 81, 94], []) f a g f4 a5 g6 := xEk_tr hE (xEk_w (by decide +kernel) eE7)
  refine lv_istore (lv' := [(5, .int v2), (0, .ref (r 0)), (1, .int x), (2, .int y), (3, .int z), (4, .int t_)]) hx hb dX11_part_12 hl (by decide) rfl (fun ls hl => ?_)
  refine lv_iload hx hb dX11_part_14 (lv_at hl 0 rfl) ?_
  refine lv_if_ge (tgt := 26) hx hb dX11_part_16 (by decide) (fun c8 => ?_) (fun c8 => ?_)
  · have h9 := (kc_le c8)
    have b10 : kb 0 v2 2147483647 := kr_le2 h9 kc_0 (kb_any v2)
    refine lv_aload_n hx hb dX11_part_26 rfl (lv_at hl 1 rfl) ?_
    refine va_get (D := D) (ci := 11) (v := .ref (r 22)) (C := RX11) (T := TX11) (N := 17) hx hb hg inC11 hown hK hP 0 rfl rfl 1 (by decide) (hg _ wt2_187) (fun _ h9 => h9) rfl dX11_part_27 ?_
    refine kVG.callW (As := []) (rest := []) ⟨hx, hb, hml, hown, hg⟩ (z_pclear l r f4 a5 g6 tx tt hT hI hG   ) (cwV 0 hg (kgV wt3_11 wt3_12 wt3_13 wt1_4 wt3_14) rfl rfl rfl (by decide +kernel) ⟨by decide, by decide⟩) hV hK hP hD hS hA (22) 2 rfl rfl rfl hl.1 rfl (Nat.le_of_ble_eq_true rfl) dX11_part_30 ⟨Nat.le_refl _, Nat.le_refl _⟩ (fun u13 H locs hw11 hP hD hS => ?_)
    obtain ⟨f14, a15, g16⟩ := u13
    have hP : va_P D vwCl (xX K r f14 a15 g16 tx) H := hP
    have hD : va_D A (xX K r f14 a15 g16 tx) := hD
    have hI : xI f14 a15 := hw11.1
    have hG : gOK K g16.2 tt := hw11.2.1
    have eE17 : xEk ([704, 705], [], []) f4 a5 g6 f14 a15 g16 := hw11.2.2.1
    have hE : xEk ([16, 32, 704, 705, 2565, 2566, 2786], [2, 3, 4, 5, 6, 81, 94], []) f a g f14 a15 g16 := xEk_tr hE (xEk_w (by decide +kernel) eE17)
    refine lv_aload_n hx hb dX11_part_33 rfl (lv_at hl 1 rfl) ?_
    refine lv_iload hx hb dX11_part_34 (lv_at hl 0 rfl) ?_
    refine kIG.callW (As := [.int v2]) (rest := []) ⟨hx, hb, hml, hown, hg⟩ (z_agreeChanged l r f14 a15 g16 tx tt hT hI hG v2  ) (cwV 1 hg (kgV wt3_15 wt3_17 wp1_1 wt1_1 wt3_18) rfl rfl rfl (by decide +kernel) ⟨by decide, by decide⟩) hV hK hP hD hS hA (0) 11 rfl rfl rfl hl.1 rfl (Nat.le_of_ble_eq_true rfl) dX11_part_36 ⟨Nat.le_refl _, Nat.le_refl _⟩ (fun v19 u20 H locs hw18 hP hD hS => ?_)
    obtain ⟨f21, a22, g23⟩ := u20
    have hP : va_P D vwCl (xX K r f21 a22 g23 tx) H := hP
    have hD : va_D A (xX K r f21 a22 g23 tx) := hD
    have hI : xI f21 a22 := hw18.2.1
    have hG : gOK K g23.2 tt := hw18.2.2.1
    have eE24 : xEk ([16, 2565, 2566, 2786], [81], []) f14 a15 g16 f21 a22 g23 := hw18.2.2.2.1
    have hE : xEk ([16, 32, 704, 705, 2565, 2566, 2786], [2, 3, 4, 5, 6, 81, 94], []) f a g f21 a22 g23 := xEk_tr hE (xEk_w (by decide +kernel) eE24)
    refine k_top (z := v2) hw18.2.2.2.2.1 ?_
    exact kI_ret (v := v2) hx hb hr hlocks rfl hK hS dX11_part_39 (f21, a22, g23) hP hD ⟨(kb_w b10 (by decide) (by decide)), hI, hG, hE, (show prtP (okPx x y z t_ (f 32)) v2 (f 32) (f21 32) from by rw [show f21 32 = f4 32 from ((eE24.1 32 rfl).trans (eE17.1 32 rfl))]; exact hw1.2.2.2.2.1), (Or.inr ⟨(fun h9 => by have w3 : (0 : Int32).toInt = 0 := (by decide +kernel); have w2 := kc_le c8; omega), hw1.2.2.2.2.2.elim (fun h => absurd h.1 (fun h9 => by have w3 : (0 : Int32).toInt = 0 := (by decide +kernel); have w2 := kc_le c8; omega)) (fun h => sV_E (sV_E h.2 eE17 (by decide +kernel) (by decide +kernel)) eE24 (by decide +kernel) (by decide +kernel)), xP_no ((eE24.1 704 rfl).trans hw11.2.2.2.1) ((eE24.1 705 rfl).trans hw11.2.2.2.2), hw18.2.2.2.2.2, fun R1 hR => by show rfE (a22 94) R1; rw [show a22 94 = a 94 from ((eE24.2.1 94 rfl).trans ((eE17.2.1 94 rfl).trans (eE7.2.1 94 rfl)))]; exact hR⟩)⟩
  · have h25 := (kc_nle c8)
    have b26 : kb (-2147483648) v2 (-1) := kr_lt1 h25 (kb_any v2) kc_0 (by decide)
    have b27 : kb (-6) v2 (-1) := (m15 (pN hw1.2.2.2.2.1 (by have w3 : (0 : Int32).toInt = 0 := (by decide +kernel); have w2 := kc_nle c8; omega))).1
    refine lv_aload_n hx hb dX11_part_19 rfl (lv_at hl 1 rfl) ?_
    refine lv_iload hx hb dX11_part_20 (lv_at hl 0 rfl) ?_
    refine kIG.callW (As := [.int v2]) (rest := []) ⟨hx, hb, hml, hown, hg⟩ (z_refuse l r f4 a5 g6 tx tt hT hI hG v2 b27 (m15 (pN hw1.2.2.2.2.1 (by have w3 : (0 : Int32).toInt = 0 := (by decide +kernel); have w2 := kc_nle c8; omega))).2) (cwV 1 hg (kgV wt3_7 wt3_9 wp1_0 wt1_1 wt3_10) rfl rfl rfl (by decide +kernel) ⟨by decide, by decide⟩) hV hK hP hD hS hA (0) 11 rfl rfl rfl hl.1 rfl (Nat.le_of_ble_eq_true rfl) dX11_part_22 ⟨Nat.le_refl _, Nat.le_refl _⟩ (fun v29 u30 H locs hw28 hP hD hS => ?_)
    obtain ⟨f31, a32, g33⟩ := u30
    have hP : va_P D vwCl (xX K r f31 a32 g33 tx) H := hP
    have hD : va_D A (xX K r f31 a32 g33 tx) := hD
    have hI : xI f31 a32 := hw28.2.1
    have hG : gOK K g33.2 tt := hw28.2.2.1
    have eE34 : xEk ([16], [94], []) f4 a5 g6 f31 a32 g33 := hw28.2.2.2.1
    have hE : xEk ([16, 32, 704, 705, 2565, 2566, 2786], [2, 3, 4, 5, 6, 81, 94], []) f a g f31 a32 g33 := xEk_tr hE (xEk_w (by decide +kernel) eE34)
    refine k_top (z := v2) hw28.2.2.2.2.1 ?_
    exact kI_ret (v := v2) hx hb hr hlocks rfl hK hS dX11_part_25 (f31, a32, g33) hP hD ⟨(kb_w b27 (by decide) (by decide)), hI, hG, hE, (show prtP (okPx x y z t_ (f 32)) v2 (f 32) (f31 32) from by rw [show f31 32 = f4 32 from (eE34.1 32 rfl)]; exact hw1.2.2.2.2.1), (Or.inl ⟨(by have w3 : (0 : Int32).toInt = 0 := (by decide +kernel); have w2 := kc_nle c8; omega), hw1.2.2.2.2.2.elim (fun h => sV_E h.2 eE34 (by decide +kernel) (by decide +kernel)) (fun h => absurd (by have w3 : (0 : Int32).toInt = 0 := (by decide +kernel); have w2 := kc_nle c8; omega) h.1), xP_cg hp0 ((eE34.1 704 rfl).trans (eE7.1 704 rfl)) ((eE34.1 705 rfl).trans (eE7.1 705 rfl)) ((eE34.2.1 23 rfl).trans (eE7.2.1 23 rfl)), hw28.2.2.2.2.2.1, fun R1 hR => hw28.2.2.2.2.2.2 R1 (by rw [show a5 94 = a 94 from (eE7.2.1 94 rfl)]; exact hR)⟩)⟩
