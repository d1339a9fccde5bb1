set_option maxHeartbeats 4000000 in
set_option maxRecDepth 100000 in
theorem z_undo  (l : Launch) {D : va_G} {K : Nat → ClassId} (r : Nat → Nat) (f : Nat → Int32) (a : Nat → Nat → Int32) (g : xG) (tx tt : va_W) (hT : ∀ c ∈ tt, c ∈ tx) (hI : xI f a) (hG : gOK K g.2 tt)   (k : Nat → Int32) (hVw : sV 32 2 f a k) (hkk : kK k) (P : pS) (hp0 : xPs (f 704) (f 705) (a 23) P (kBn k)) (hp1 : ∀ j, j < P.1 → 0 ≤ (P.2.1 j).toInt) : kIG l yX11_undo (Cond.code yX11_undo cX11_undo 1 (some .int) :: kG) (rmD 4 0 0) D K [.ref (r 0)] (xX K r f a g tx) (fun v (u : xS) => kb (-2147483648) v 2147483647 ∧ xI u.1 u.2.1 ∧ gOK K u.2.2.2 tt ∧ xEk ([16, 704, 705, 2565, 2566, 2786], [6, 9, 10, 11, 81, 94], []) f a g u.1 u.2.1 u.2.2 ∧ xTp 32 2 v u.1 u.2.1 (a 94) (udF k P) (kBn k) (decide ((udF k P).1 < 0))) (fun u => xX K r u.1 u.2.1 u.2.2 tx) 0 0 := by
  refine kIE.of (cc := cX11_undo) (maxL := 1) (ret := (some .int)) (by decide) rfl (Nat.le_of_ble_eq_true rfl) ?_
  intro p e s m below meth c A hx hb hr hml hown hts hlocks hnm hK hP hD hS hA hV ls hl
  have hE : xEk ([16, 704, 705, 2565, 2566, 2786], [6, 9, 10, 11, 81, 94], []) f a g f a g := xEk_rf
  have hg : ∀ w ∈ kG, w.before _ s = true := fun w h => hts w (List.mem_cons_of_mem _ h)
  have hown : s.vm.findClass RX11 = some m.cls := hown
  have hl : lv_has ls 1 [(0, .ref (r 0))] := hl
  refine lv_aload_n hx hb dX11_undo_0 rfl (lv_at hl 0 rfl) ?_
  refine lv_aload_n hx hb dX11_undo_1 rfl (lv_at hl 0 rfl) ?_
  refine va_get (D := D) (ci := 11) (v := .ref (r 22)) (C := RX11) (T := TX11) (N := 17) hx hb hg inC11 hown hK hP 0 rfl rfl 1 (by decide) (hg _ wt2_187) (fun _ h9 => h9) rfl dX11_undo_2 ?_
  refine lv_aload_n hx hb dX11_undo_5 rfl (lv_at hl 0 rfl) ?_
  refine va_get (D := D) (ci := 11) (v := .ref (r 1)) (C := RX11) (T := TX11) (N := 17) hx hb hg inC11 hown hK hP 0 rfl rfl 0 (by decide) (hg _ wt2_186) (fun _ h9 => h9) rfl dX11_undo_6 ?_
  refine kIG.callW (As := [.ref (r 1)]) (rest := [.ref (r 0)]) ⟨hx, hb, hml, hown, hg⟩ (z_restoreLatest l r f a g tx tt hT hI hG   k hVw hkk P hp0) (cwV 1 hg (kgV wt4_193 wt4_194 wt4_195 wt1_4 wt4_196) rfl rfl rfl (by decide +kernel) ⟨by decide, by decide⟩) hV hK hP hD hS hA (22) 2 rfl rfl rfl hl.1 rfl (Nat.le_of_ble_eq_true rfl) dX11_undo_9 ⟨Nat.le_refl _, Nat.le_refl _⟩ (fun v2 u3 H locs hw1 hP hD hS => ?_)
  obtain ⟨f4, a5, g6⟩ := u3
  have hP : va_P D vwCl (xX K r f4 a5 g6 tx) H := hP
  have hD : va_D A (xX K r f4 a5 g6 tx) := hD
  have hI : xI f4 a5 := hw1.2.1
  have hG : gOK K g6.2 tt := hw1.2.2.1
  have eE7 : xEk ([704, 705], [6, 9, 10, 11], []) f a g f4 a5 g6 := hw1.2.2.2.1
  have hE : xEk ([16, 704, 705, 2565, 2566, 2786], [6, 9, 10, 11, 81, 94], []) f a g f4 a5 g6 := xEk_tr hE (xEk_w (by decide +kernel) eE7)
  refine kIG.callW (As := [.int v2]) (rest := []) ⟨hx, hb, hml, hown, hg⟩ (z_settle l r f4 a5 g6 tx tt hT hI hG v2  (fun h => dN (udF_r hp1) (hw1.2.2.2.2).1 h)) (cwV 1 hg (kgV wt4_170 wt4_172 wp2_11 wt1_1 wt4_173) rfl rfl rfl (by decide +kernel) ⟨by decide, by decide⟩) hV hK hP hD hS hA (0) 11 rfl rfl rfl hl.1 rfl (Nat.le_of_ble_eq_true rfl) dX11_undo_12 ⟨Nat.le_refl _, Nat.le_refl _⟩ (fun v9 u10 H locs hw8 hP hD hS => ?_)
  obtain ⟨f11, a12, g13⟩ := u10
  have hP : va_P D vwCl (xX K r f11 a12 g13 tx) H := hP
  have hD : va_D A (xX K r f11 a12 g13 tx) := hD
  have hI : xI f11 a12 := hw8.2.1
  have hG : gOK K g13.2 tt := hw8.2.2.1
  have eE14 : xEk ([16, 2565, 2566, 2786], [81, 94], []) f4 a5 g6 f11 a12 g13 := hw8.2.2.2.1
  have hE : xEk ([16, 704, 705, 2565, 2566, 2786], [6, 9, 10, 11, 81, 94], []) f a g f11 a12 g13 := xEk_tr hE (xEk_w (by decide +kernel) eE14)
  refine k_top (z := v2) hw8.2.2.2.2.1 ?_
  exact kI_ret (v := v2) hx hb hr hlocks rfl hK hS dX11_undo_15 (f11, a12, g13) hP hD ⟨(kb_any v2), hI, hG, hE, (xTp_i hw1.2.2.2.2 (fun h => sV_E h eE14 (by decide +kernel) (by decide +kernel)) (fun h => xP_cg h (eE14.1 704 rfl) (eE14.1 705 rfl) (eE14.2.1 23 rfl)) hw8.2.2.2.2.2.1 (fun R1 hR => hw8.2.2.2.2.2.2 R1 (by rw [show a5 94 = a 94 from (eE7.2.1 94 rfl)]; exact hR)))⟩