set_option maxHeartbeats 4000000 in
set_option maxRecDepth 100000 in
theorem z_total  (l : Launch) {D : va_G} {K : Nat → ClassId} (r : Nat → Nat) (f : Nat → Int32) (a : Nat → Nat → Int32) (g : xG) (tx tt : va_W) (hT : ∀ c ∈ tt, c ∈ tx) (hI : xI f a) (hG : gOK K g.2 tt)   (k : Nat → Int32) (hVw : sV 32 2 f a k) (hkk : kK k)  (hp0 : f 2786 = 0 ∨ wOR k (kPn k) (bM (upB k) (kPn k)) (a 88)) : kIG l yX6_total (Cond.code yX6_total cX6_total 2 (some .int) :: kG) (rmD 3 0 0) D K [.ref (r 87)] (xX K r f a g tx) (fun v (u : xS) => kb (-2147483648) v 2147483647 ∧ xI u.1 u.2.1 ∧ gOK K u.2.2.2 tt ∧ xEk ([2786], [88], []) f a g u.1 u.2.1 u.2.2 ∧ v = u.2.1 88 (bM (upB k) (kPn k)) ∧ wOR k (kPn k) (bM (upB k) (kPn k)) (u.2.1 88)) (fun u => xX K r u.1 u.2.1 u.2.2 tx) 0 0 := by
  refine kIE.of (cc := cX6_total) (maxL := 2) (ret := (some .int)) (by decide) rfl (Nat.le_of_ble_eq_true rfl) ?_
  intro p e s m below meth c A hx hb hr hml hown hts hlocks hnm hK hP hD hS hA hV ls hl
  have hE : xEk ([2786], [88], []) f a g f a g := xEk_rf
  have hg : ∀ w ∈ kG, w.before _ s = true := fun w h => hts w (List.mem_cons_of_mem _ h)
  have hown : s.vm.findClass RX6 = some m.cls := hown
  have hl : lv_has ls 2 [(0, .ref (r 87))] := hl
  refine lv_aload_n hx hb dX6_total_0 rfl (lv_at hl 0 rfl) ?_
  refine kVG.callW (As := []) (rest := []) ⟨hx, hb, hml, hown, hg⟩ (z_reckonWays l r f a g tx tt hT hI hG   k hVw hkk hp0) (cwV 0 hg (kgV wt4_209 wt4_211 wp2_12 wt1_12 wt4_212) rfl rfl rfl (by decide +kernel) ⟨by decide, by decide⟩) hV hK hP hD hS hA (87) 6 rfl rfl rfl hl.1 rfl (Nat.le_of_ble_eq_true rfl) dX6_total_1 ⟨Nat.le_refl _, Nat.le_refl _⟩ (fun u3 H locs hw1 hP hD hS => ?_)
  obtain ⟨f4, a5, g6⟩ := u3
  have hP : va_P D vwCl (xX K r f4 a5 g6 tx) H := hP
  have hD : va_D A (xX K r f4 a5 g6 tx) := hD
  have hI : xI f4 a5 := hw1.1
  have hG : gOK K g6.2 tt := hw1.2.1
  have eE7 : xEk ([2786], [88], []) f a g f4 a5 g6 := hw1.2.2.1
  have hE : xEk ([2786], [88], []) f a g f4 a5 g6 := xEk_tr hE eE7
  refine lv_aload_n hx hb dX6_total_4 rfl (lv_at hl 0 rfl) ?_
  refine va_get (D := D) (ci := 6) (v := .ref (r 1)) (C := RX6) (T := TX6) (N := 3) hx hb hg inC6 hown hK hP 87 rfl rfl 0 (by decide) (hg _ wt2_153) (fun _ h9 => h9) rfl dX6_total_5 ?_
  refine kIG.callW (As := []) (rest := []) ⟨hx, hb, hml, hown, hg⟩ (z_upMaskN l r f4 a5 g6 tx tt hT hI hG   k (show sV 32 2 f4 a5 k from sV_cg hVw (hE.1 32 rfl) (hE.1 38 rfl) (hE.1 44 rfl) (hE.1 49 rfl) (hE.1 50 rfl) (fun j hj => hE.2.1 _ (al_c (b := 2) (J := List.range 13) (by decide +kernel) (List.mem_range.mpr hj)))) hkk ) (cwV 0 hg (kgV wt4_213 wt3_44 wt3_45 wt1_2 wt3_46) rfl rfl rfl (by decide +kernel) ⟨by decide, by decide⟩) hV hK hP hD hS hA (1) 7 rfl rfl rfl hl.1 rfl (Nat.le_of_ble_eq_true rfl) dX6_total_8 ⟨Nat.le_refl _, Nat.le_refl _⟩ (fun v9 u10 H locs hw8 hP hD hS => ?_)
  have hP : va_P D vwCl (xX K r f4 a5 g6 tx) H := hP
  have hD : va_D A (xX K r f4 a5 g6 tx) := hD
  refine lv_istore_n (lv' := [(1, .int v9), (0, .ref (r 87))]) hx hb dX6_total_11 rfl hl (by decide) rfl (fun ls hl => ?_)
  refine lv_iload_n hx hb dX6_total_12 rfl (lv_at hl 0 rfl) ?_
  refine lv_if_lt (tgt := 32) hx hb dX6_total_13 (by decide) (fun c11 => ?_) (fun c11 => ?_)
  · have h12 := (kc_lt c11)
    exact kb_no (kr_lt1 h12 hw8.1 kc_0 (H := (-1)) (by decide)) (by decide)
  · have h13 := (kc_nlt c11)
    refine lv_iload_n hx hb dX6_total_16 rfl (lv_at hl 0 rfl) ?_
    refine lv_sipush (v := 1024) hx hb dX6_total_17 (by decide) ?_
    refine lv_icmp_ge (tgt := 32) hx hb dX6_total_20 (by decide) (fun c14 => ?_) (fun c14 => ?_)
    · have h15 := (kc_le c14)
      exact kb_no (kr_le1 h15 kc_1024 hw8.1) (by decide)
    · have h16 := (kc_nle c14)
      refine lv_aload_n hx hb dX6_total_23 rfl (lv_at hl 1 rfl) ?_
      refine va_get (D := D) (ci := 6) (v := .ref (r 88)) (C := RX6) (T := TX6) (N := 3) hx hb hg inC6 hown hK hP 87 rfl rfl 1 (by decide) (hg _ wt2_154) (fun _ h9 => h9) rfl dX6_total_24 ?_
      refine lv_iload_n hx hb dX6_total_27 rfl (lv_at hl 0 rfl) ?_
      refine va_iald hx hb hK hP 88 0 rfl rfl (kb_in hw8.1 (by decide) (by decide)) dX6_total_28 ?_
      refine lv_topi (fun t17 et17 => ?_)
      refine lv_goto (tgt := 33) hx hb dX6_total_29 (by decide) ?_
      exact kI_ret (v := t17) hx hb hr hlocks rfl hK hS dX6_total_33 (f4, a5, g6) hP hD ⟨(kb_any t17), hI, hG, hE, (show t17 = a5 88 (bM (upB k) (kPn k)) from et17.trans (congrArg (a5 88) (by rw [hw8.2]; exact (upM_cl hkk)))), (by (try dsimp only); rw [show a5 88 = a5 88 from rfl]; exact hw1.2.2.2)⟩
set_option maxHeartbeats 4000000 in
set_option maxRecDepth 100000 in
theorem z_partAt  (l : Launch) {D : va_G} {K : Nat → ClassId} (r : Nat → Nat) (f : Nat → Int32) (a : Nat → Nat → Int32) (g : xG) (tx tt : va_W) (hT : ∀ c ∈ tt, c ∈ tx) (hI : xI f a) (hG : gOK K g.2 tt) (x : Int32) (y : Int32)  (k : Nat → Int32) (hVw : sV 32 2 f a k) (hkk : kK k)  (hp0 : f 2786 = 0 ∨ wOR k (kPn k) (bM (upB k) (kPn k)) (a 88)) : kIG l yX6_partAt (Cond.code yX6_partAt cX6_partAt 9 (some .int) :: kG) (rmD 4 0 0) D K [.ref (r 87), .int x, .int y] (xX K r f a g tx) (fun v (u : xS) => kb (-2147483648) v 2147483647 ∧ xI u.1 u.2.1 ∧ gOK K u.2.2.2 tt ∧ xEk ([2786], [88], []) f a g u.1 u.2.1 u.2.2 ∧ ((x.toInt < 0 ∧ v = -1) ∨ (¬ x.toInt < 0 ∧ wOR k (kPn k) (bM (upB k) (kPn k)) (u.2.1 88) ∧ rowsR k (u.2.1 88) x y v)) ∧ (u.1 2786 = 0 ∨ wOR k (kPn k) (bM (upB k) (kPn k)) (u.2.1 88))) (fun u => xX K r u.1 u.2.1 u.2.2 tx) 0 0 := by
  refine kIE.of (cc := cX6_partAt) (maxL := 9) (ret := (some .int)) (by decide) rfl (Nat.le_of_ble_eq_true rfl) ?_
  intro p e s m below meth c A hx hb hr hml hown hts hlocks hnm hK hP hD hS hA hV ls hl
  have hE : xEk ([2786], [88], []) f a g f a g := xEk_rf
  have hg : ∀ w ∈ kG, w.before _ s = true := fun w h => hts w (List.mem_cons_of_mem _ h)
  have hown : s.vm.findClass RX6 = some m.cls := hown
  have hl : lv_has ls 9 [(0, .ref (r 87)), (1, .int x), (2, .int y)] := hl
  have hN10 := (kPn_b hkk).1
  have hp2 := p2 hN10
  obtain ⟨N, hNN⟩ : ∃ N : Nat, N = kPn k := ⟨_, rfl⟩
  rw [← hNN] at hN10 hp2
  obtain ⟨u_, hu_⟩ : ∃ u_ : Nat, u_ = bM (upB k) (kPn k) := ⟨_, rfl⟩
  have hu1 : u_ < 2 ^ N := by rw [hu_, hNN]; exact bM_lt _ _
  have hkN : (k 102).toInt = (N : Int) := by rw [hNN]; exact (kPn_b hkk).2
  refine lv_iload_n hx hb dX6_partAt_0 rfl (lv_at hl 1 rfl) ?_
  refine lv_if_lt (tgt := 22) hx hb dX6_partAt_1 (by decide) (fun c1 => ?_) (fun c1 => ?_)
  · have h2 := (kc_lt c1)
    have b3 : kb (-2147483648) x (-1) := kr_lt1 h2 (kb_any x) kc_0 (by decide)
    refine lv_iconst (v := (-1)) hx hb dX6_partAt_22 (by decide) ?_
    exact kI_ret (v := (-1)) hx hb hr hlocks rfl hK hS dX6_partAt_23 (f, a, g) hP hD ⟨(kb_w kc_m1 (by decide) (by decide)), hI, hG, hE, (Or.inl ⟨(by have w1 := kc_lt c1; have w2 : (0 : Int32).toInt = 0 := (by decide +kernel); omega), rfl⟩), hp0⟩
  · have h4 := (kc_nlt c1)
    have b5 : kb 0 x 2147483647 := kr_le2 h4 kc_0 (kb_any x)
    refine lv_iload_n hx hb dX6_partAt_4 rfl (lv_at hl 1 rfl) ?_
    refine lv_aload_n hx hb dX6_partAt_5 rfl (lv_at hl 0 rfl) ?_
    refine kIG.callW (As := []) (rest := [.int x]) ⟨hx, hb, hml, hown, hg⟩ (z_total l r f a g tx tt hT hI hG   k hVw hkk hp0) (cwV 0 hg (kgV wt4_223 wt4_206 wt4_207 wt1_12 wt4_208) rfl rfl rfl (by decide +kernel) ⟨by decide, by decide⟩) hV hK hP hD hS hA (87) 6 rfl rfl rfl hl.1 rfl (Nat.le_of_ble_eq_true rfl) dX6_partAt_6 ⟨Nat.le_refl _, Nat.le_refl _⟩ (fun v7 u8 H locs hw6 hP hD hS => ?_)
    obtain ⟨f9, a10, g11⟩ := u8
    have hP : va_P D vwCl (xX K r f9 a10 g11 tx) H := hP
    have hD : va_D A (xX K r f9 a10 g11 tx) := hD
    have hI : xI f9 a10 := hw6.2.1
    have hG : gOK K g11.2 tt := hw6.2.2.1
    have eE12 : xEk ([2786], [88], []) f a g f9 a10 g11 := hw6.2.2.2.1
    have hE : xEk ([2786], [88], []) f a g f9 a10 g11 := xEk_tr hE eE12
    have hto : v7 = (a10 88) u_ := by rw [hu_]; exact hw6.2.2.2.2.1
    have hwO : wOR k N u_ (a10 88) := by rw [hNN, hu_]; exact hw6.2.2.2.2.2
    have hcD := wO_c hN10 hwO
    refine lv_icmp_ge (tgt := 22) hx hb dX6_partAt_9 (by decide) (fun c13 => ?_) (fun c13 => ?_)
    · have h14 := (kc_le c13)
      refine lv_iconst (v := (-1)) hx hb dX6_partAt_22 (by decide) ?_
      exact kI_ret (v := (-1)) hx hb hr hlocks rfl hK hS dX6_partAt_23 (f9, a10, g11) hP hD ⟨(kb_w kc_m1 (by decide) (by decide)), hI, hG, hE, (Or.inr ⟨(by have z0 : (0 : Int32).toInt = 0 := (by decide +kernel); have zn : (-1 : Int32).toInt = -1 := (by decide +kernel); have z10 : (10 : Int32).toInt = 10 := (by decide +kernel); have w1 := kc_nlt c1; omega), (by (try dsimp only); rw [show a10 88 = a10 88 from rfl, ← hu_, ← hNN]; exact hwO), (by have z0 : (0 : Int32).toInt = 0 := (by decide +kernel); have zn : (-1 : Int32).toInt = -1 := (by decide +kernel); have z10 : (10 : Int32).toInt = 10 := (by decide +kernel); have hx1 : ¬ x = -1 := (fun h9 => by have w1 := congrArg Int32.toInt h9; have w2 := kc_nlt c1; omega); unfold rowsR rwN; (try dsimp only); rw [show a10 88 = a10 88 from rfl, ← hu_, ← hNN]; exact Or.inr (Or.inr ⟨hx1, (fun h9 => by have w1 := h9.2.1; have w2 := kc_le c13; rw [hto] at w2; omega), rfl⟩))⟩), (Or.inr (by (try dsimp only); rw [show a10 88 = a10 88 from rfl, ← hu_, ← hNN]; exact hwO))⟩
    · have h15 := (kc_nle c13)
      have b16 : kb 0 x 2147483646 := kr_lt1 h15 b5 (kb_any v7) (by decide)
      have b17 : kb 1 v7 2147483647 := kr_lt2 h15 b5 (kb_any v7) (by decide)
      refine lv_iload_n hx hb dX6_partAt_12 rfl (lv_at hl 2 rfl) ?_
      refine lv_if_lt (tgt := 22) hx hb dX6_partAt_13 (by decide) (fun c18 => ?_) (fun c18 => ?_)
      · have h19 := (kc_lt c18)
        have b20 : kb (-2147483648) y (-1) := kr_lt1 h19 (kb_any y) kc_0 (by decide)
        refine lv_iconst (v := (-1)) hx hb dX6_partAt_22 (by decide) ?_
        exact kI_ret (v := (-1)) hx hb hr hlocks rfl hK hS dX6_partAt_23 (f9, a10, g11) hP hD ⟨(kb_w kc_m1 (by decide) (by decide)), hI, hG, hE, (Or.inr ⟨(by have z0 : (0 : Int32).toInt = 0 := (by decide +kernel); have zn : (-1 : Int32).toInt = -1 := (by decide +kernel); have z10 : (10 : Int32).toInt = 10 := (by decide +kernel); have w1 := kc_nlt c1; omega), (by (try dsimp only); rw [show a10 88 = a10 88 from rfl, ← hu_, ← hNN]; exact hwO), (by have z0 : (0 : Int32).toInt = 0 := (by decide +kernel); have zn : (-1 : Int32).toInt = -1 := (by decide +kernel); have z10 : (10 : Int32).toInt = 10 := (by decide +kernel); have hx1 : ¬ x = -1 := (fun h9 => by have w1 := congrArg Int32.toInt h9; have w2 := kc_nlt c1; omega); unfold rowsR rwN; (try dsimp only); rw [show a10 88 = a10 88 from rfl, ← hu_, ← hNN]; exact Or.inr (Or.inr ⟨hx1, (fun h9 => by have w1 := h9.2.2.1; have w2 := kc_lt c18; omega), rfl⟩))⟩), (Or.inr (by (try dsimp only); rw [show a10 88 = a10 88 from rfl, ← hu_, ← hNN]; exact hwO))⟩
      · have h21 := (kc_nlt c18)
        have b22 : kb 0 y 2147483647 := kr_le2 h21 kc_0 (kb_any y)
        refine lv_iload_n hx hb dX6_partAt_16 rfl (lv_at hl 2 rfl) ?_
        refine lv_bipush (v := 10) hx hb dX6_partAt_17 (by decide) ?_
        refine lv_icmp_lt (tgt := 24) hx hb dX6_partAt_19 (by decide) (fun c23 => ?_) (fun c23 => ?_)
        · have h24 := (kc_lt c23)
          have b25 : kb 0 y 9 := kr_lt1 h24 b22 kc_10 (by decide)
          have hy0 : 0 ≤ y.toInt := by have w1 := kc_nlt c18; have z0 : (0 : Int32).toInt = 0 := (by decide +kernel); omega
          refine lv_aload_n hx hb dX6_partAt_24 rfl (lv_at hl 0 rfl) ?_
          refine va_get (D := D) (ci := 6) (v := .ref (r 1)) (C := RX6) (T := TX6) (N := 3) hx hb hg inC6 hown hK hP 87 rfl rfl 0 (by decide) (hg _ wt2_153) (fun _ h9 => h9) rfl dX6_partAt_25 ?_
          refine kIG.callW (As := []) (rest := []) ⟨hx, hb, hml, hown, hg⟩ (z_upMaskN l r f9 a10 g11 tx tt hT hI hG   k (show sV 32 2 f9 a10 k from sV_cg hVw (hE.1 32 rfl) (hE.1 38 rfl) (hE.1 44 rfl) (hE.1 49 rfl) (hE.1 50 rfl) (fun j hj => hE.2.1 _ (al_c (b := 2) (J := List.range 13) (by decide +kernel) (List.mem_range.mpr hj)))) hkk ) (cwV 0 hg (kgV wt4_213 wt3_44 wt3_45 wt1_2 wt3_46) rfl rfl rfl (by decide +kernel) ⟨by decide, by decide⟩) hV hK hP hD hS hA (1) 7 rfl rfl rfl hl.1 rfl (Nat.le_of_ble_eq_true rfl) dX6_partAt_28 ⟨Nat.le_refl _, Nat.le_refl _⟩ (fun v27 u28 H locs hw26 hP hD hS => ?_)
          have hP : va_P D vwCl (xX K r f9 a10 g11 tx) H := hP
          have hD : va_D A (xX K r f9 a10 g11 tx) := hD
          have hup : v27 = nI u_ := by rw [hw26.2, hu_]; rfl
          have hx0 : x.toInt < ((a10 88) u_).toInt := by rw [← hto]; exact kc_nle c13
          refine lv_istore_n (lv' := [(3, .int v27), (0, .ref (r 87)), (1, .int x), (2, .int y)]) hx hb dX6_partAt_31 rfl hl (by decide) rfl (fun ls hl => ?_)
          refine lv_iload_n hx hb dX6_partAt_32 rfl (lv_at hl 2 rfl) ?_
          refine lv_istore (lv' := [(4, .int x), (3, .int v27), (0, .ref (r 87)), (1, .int x), (2, .int y)]) hx hb dX6_partAt_33 hl (by decide) rfl (fun ls hl => ?_)
          refine lv_iconst (v := (-1)) hx hb dX6_partAt_35 (by decide) ?_
          refine lv_istore (lv' := [(5, .int (-1)), (4, .int x), (3, .int v27), (0, .ref (r 87)), (1, .int x), (2, .int y)]) hx hb dX6_partAt_36 hl (by decide) rfl (fun ls hl => ?_)
          refine lv_iconst (v := 0) hx hb dX6_partAt_38 (by decide) ?_
          refine lv_istore (lv' := [(6, .int 0), (5, .int (-1)), (4, .int x), (3, .int v27), (0, .ref (r 87)), (1, .int x), (2, .int y)]) hx hb dX6_partAt_39 hl (by decide) rfl (fun ls hl => ?_)
          have lp33 : ∀ (n34 : Nat) (sz : Nat) (j : Nat) (lp : Nat) (H : Heap) (locs : List Loc) (ls : Array Slot) (y29 : Int32) (y30 : Int32) (y31 : Int32) (y32 : Int32), (y.toInt + 1 < (j : Int) + (n34 : Int)) → (kb 0 y29 10) → (kb (-1) y30 9) → (kb 0 y31 2147483647) → (kb 0 y32 1023) → (y32.toInt = (sz : Int) ∧ sz < 2 ^ N ∧ sz &&& u_ = u_) → (y29.toInt = (j : Int)) → (pop sz = pop u_ + j) → (y31.toInt < ((a10 88) sz).toInt) → (Pth k (a10 88) N u_ x.toInt j sz y31.toInt lp ∧ (0 < j → y30.toInt = (lp : Int))) → ((j : Int) ≤ y.toInt + 1) → va_P D vwCl (xX K r f9 a10 g11 tx) H → va_D A (xX K r f9 a10 g11 tx) → va_S A s.heap H locs → lv_has ls 9 [(6, .int y29), (5, .int y30), (4, .int y31), (3, .int y32), (0, .ref (r 87)), (1, .int x), (2, .int y)] → W p l e (rmD 4 0 0) s m ([.ref (r 87), .int x, .int y] : List Value).toArray below meth c H locs 0 0 (kQi D (tysK K) (fun v (u : xS) => kb (-2147483648) v 2147483647 ∧ xI u.1 u.2.1 ∧ gOK K u.2.2.2 tt ∧ xEk ([2786], [88], []) f a g u.1 u.2.1 u.2.2 ∧ ((x.toInt < 0 ∧ v = -1) ∨ (¬ x.toInt < 0 ∧ wOR k (kPn k) (bM (upB k) (kPn k)) (u.2.1 88) ∧ rowsR k (u.2.1 88) x y v)) ∧ (u.1 2786 = 0 ∨ wOR k (kPn k) (bM (upB k) (kPn k)) (u.2.1 88))) (fun u => xX K r u.1 u.2.1 u.2.2 tx) A below ([.ref (r 87), .int x, .int y] : List Value).toArray s 0 0) (F0 m 41 ls []) := by
            intro n34
            induction n34 with
            | zero =>
              intro sz j lp  H locs ls y29 y30 y31 y32 hmlp33 b35 b36 b37 b38 hvlp33_0 hvlp33_1 hvlp33_2 hvlp33_3 hvlp33_4 hvlp33_5 hP hD hS hl
              exact (by have w1 := hmlp33; have w2 := hvlp33_5; omega : False).elim
            | succ n34 ihlp33 =>
              intro sz j lp  H locs ls y29 y30 y31 y32 hmlp33 b35 b36 b37 b38 hvlp33_0 hvlp33_1 hvlp33_2 hvlp33_3 hvlp33_4 hvlp33_5 hP hD hS hl
              refine lv_iload hx hb dX6_partAt_41 (lv_at hl 0 rfl) ?_
              refine lv_iload_n hx hb dX6_partAt_43 rfl (lv_at hl 6 rfl) ?_
              refine lv_icmp_gt (tgt := 135) hx hb dX6_partAt_44 (by decide) (fun c39 => ?_) (fun c39 => ?_)
              · have h40 := (kc_lt c39)
                have b41 : kb 1 y29 10 := kr_lt2 h40 b25 b35 (by decide)
                refine lv_iload hx hb dX6_partAt_135 (lv_at hl 1 rfl) ?_
                exact kI_ret (v := y30) hx hb hr hlocks rfl hK hS dX6_partAt_137 (f9, a10, g11) hP hD ⟨(kb_w b36 (by decide) (by decide)), hI, hG, hE, (Or.inr ⟨(by have z0 : (0 : Int32).toInt = 0 := (by decide +kernel); have zn : (-1 : Int32).toInt = -1 := (by decide +kernel); have z10 : (10 : Int32).toInt = 10 := (by decide +kernel); have w1 := kc_nlt c1; omega), (by (try dsimp only); rw [show a10 88 = a10 88 from rfl, ← hu_, ← hNN]; exact hwO), (by have z0 : (0 : Int32).toInt = 0 := (by decide +kernel); have zn : (-1 : Int32).toInt = -1 := (by decide +kernel); have z10 : (10 : Int32).toInt = 10 := (by decide +kernel); have hx1 : ¬ x = -1 := (fun h9 => by have w1 := congrArg Int32.toInt h9; have w2 := kc_nlt c1; omega); unfold rowsR rwN; (try dsimp only); rw [show a10 88 = a10 88 from rfl, ← hu_, ← hNN]; exact Or.inr (Or.inl ⟨hx1, ⟨by have w1 := kc_nlt c1; omega, hx0, hy0, (by have w1 := pop_leN hN10 hvlp33_0.2.1; have w2 := hvlp33_2; have w3 := (show (j : Int) = y.toInt + 1 by have w1 := hvlp33_1; have w2 := kc_lt c39; have w3 := hvlp33_5; omega); omega)⟩, sz, _, lp, (by have w9 := hvlp33_4.1; rw [show j = y.toInt.toNat + 1 by have w1 := (show (j : Int) = y.toInt + 1 by have w1 := hvlp33_1; have w2 := kc_lt c39; have w3 := hvlp33_5; omega); have w2 := hy0; omega] at w9; exact w9), hvlp33_4.2 (by have w1 := (show (j : Int) = y.toInt + 1 by have w1 := hvlp33_1; have w2 := kc_lt c39; have w3 := hvlp33_5; omega); have w2 := hy0; omega)⟩))⟩), (Or.inr (by (try dsimp only); rw [show a10 88 = a10 88 from rfl, ← hu_, ← hNN]; exact hwO))⟩
              · have h42 := (kc_nlt c39)
                have b43 : kb 0 y29 9 := kr_le1 h42 b35 b25
                have hjy : (j : Int) ≤ y.toInt := by have w1 := hvlp33_1; have w2 := kc_nlt c39; omega
                refine lv_iconst (v := (-1)) hx hb dX6_partAt_47 (by decide) ?_
                refine lv_istore (lv' := [(5, .int (-1)), (6, .int y29), (4, .int y31), (3, .int y32), (0, .ref (r 87)), (1, .int x), (2, .int y)]) hx hb dX6_partAt_48 hl (by decide) rfl (fun ls hl => ?_)
                refine lv_iconst (v := 0) hx hb dX6_partAt_50 (by decide) ?_
                refine lv_istore (lv' := [(7, .int 0), (5, .int (-1)), (6, .int y29), (4, .int y31), (3, .int y32), (0, .ref (r 87)), (1, .int x), (2, .int y)]) hx hb dX6_partAt_51 hl (by decide) rfl (fun ls hl => ?_)
                have lp47 : ∀ (n48 : Nat) (q : Nat) (H : Heap) (locs : List Loc) (ls : Array Slot) (y44 : Int32) (y45 : Int32) (y46 : Int32), ((N : Int) < (q : Int) + (n48 : Int)) → (kb 0 y44 10) → (kb (-1) y45 9) → (kb 0 y46 2147483647) → (y44.toInt = (q : Int)) → ((y45 = -1 ∧ y46.toInt + pSr k (a10 88) sz q = y31.toInt ∧ ∀ q2, q2 < q → fB k sz q2 = true → ((a10 88) (sz ||| 2 ^ q2)).toInt ≤ y31.toInt - pSr k (a10 88) sz q2) ∨ (∃ r, r < N ∧ y45.toInt = (r : Int) ∧ isF k (a10 88) sz y31.toInt r ∧ y46.toInt = y31.toInt - pSr k (a10 88) sz r)) → (q ≤ N) → va_P D vwCl (xX K r f9 a10 g11 tx) H → va_D A (xX K r f9 a10 g11 tx) → va_S A s.heap H locs → lv_has ls 9 [(7, .int y44), (5, .int y45), (6, .int y29), (4, .int y46), (3, .int y32), (0, .ref (r 87)), (1, .int x), (2, .int y)] → W p l e (rmD 4 0 0) s m ([.ref (r 87), .int x, .int y] : List Value).toArray below meth c H locs 0 0 (kQi D (tysK K) (fun v (u : xS) => kb (-2147483648) v 2147483647 ∧ xI u.1 u.2.1 ∧ gOK K u.2.2.2 tt ∧ xEk ([2786], [88], []) f a g u.1 u.2.1 u.2.2 ∧ ((x.toInt < 0 ∧ v = -1) ∨ (¬ x.toInt < 0 ∧ wOR k (kPn k) (bM (upB k) (kPn k)) (u.2.1 88) ∧ rowsR k (u.2.1 88) x y v)) ∧ (u.1 2786 = 0 ∨ wOR k (kPn k) (bM (upB k) (kPn k)) (u.2.1 88))) (fun u => xX K r u.1 u.2.1 u.2.2 tx) A below ([.ref (r 87), .int x, .int y] : List Value).toArray s 0 0) (F0 m 53 ls []) := by
                  intro n48
                  induction n48 with
                  | zero =>
                    intro q  H locs ls y44 y45 y46 hmlp47 b49 b50 b51 hvlp47_0 hvlp47_1 hvlp47_2 hP hD hS hl
                    exact (by have w1 := hmlp47; have w2 := hvlp47_2; omega : False).elim
                  | succ n48 ihlp47 =>
                    intro q  H locs ls y44 y45 y46 hmlp47 b49 b50 b51 hvlp47_0 hvlp47_1 hvlp47_2 hP hD hS hl
                    refine lv_iload hx hb dX6_partAt_53 (lv_at hl 0 rfl) ?_
                    refine lv_aload_n hx hb dX6_partAt_55 rfl (lv_at hl 5 rfl) ?_
                    refine va_get (D := D) (ci := 6) (v := .ref (r 1)) (C := RX6) (T := TX6) (N := 3) hx hb hg inC6 hown hK hP 87 rfl rfl 0 (by decide) (hg _ wt2_153) (fun _ h9 => h9) rfl dX6_partAt_56 ?_
                    refine va_get (D := D) (ci := 7) (v := .int (f9 32)) (C := RX7) (T := TX7) (N := 20) hx hb hg inC7 hown hK hP 1 rfl rfl 0 (by decide) (hg _ wt1_81) (fun _ h9 => h9) rfl dX6_partAt_59 ?_
                    refine lv_topi (fun t52 et52 => ?_)
                    have b53 : kb 0 t52 10 := kb_eq et52 (fI_at hI.1 32 (by decide) (by decide))
                    have kvt52 : t52 = k 102 := et52.trans ((hE.1 32 rfl).trans (sv_parts hVw))
                    have kvit52 : t52.toInt = (k 102).toInt := congrArg Int32.toInt kvt52
                    have b54 : kb 0 t52 10 := kb_eq kvt52 (kK_r hkk 102 _ _ (by decide) (by decide))
                    refine lv_icmp_ge (tgt := 114) hx hb dX6_partAt_62 (by decide) (fun c55 => ?_) (fun c55 => ?_)
                    · have h56 := (kc_le c55)
                      refine lv_iload hx hb dX6_partAt_114 (lv_at hl 1 rfl) ?_
                      refine lv_iconst (v := (-1)) hx hb dX6_partAt_116 (by decide) ?_
                      refine lv_icmp_ne (tgt := 122) hx hb dX6_partAt_117 (by decide) (fun c57 => ?_) (fun c57 => ?_)
                      · have b58 : kb 0 y45 9 := kr_nel c57 b50 kc_m1 (by decide)
                        obtain ⟨r_, hr1, hr2, hr3, hr4⟩ := (hvlp47_1).resolve_left (fun h9 => c57 h9.1)
                        have b59 : kb 0 y45 9 := ⟨by omega, by omega⟩
                        refine lv_iload_n hx hb dX6_partAt_122 rfl (lv_at hl 4 rfl) ?_
                        refine lv_iconst (v := 1) hx hb dX6_partAt_123 (by decide) ?_
                        refine lv_iload hx hb dX6_partAt_124 (lv_at hl 1 rfl) ?_
                        refine lv_ishl hx hb dX6_partAt_126 ?_
                        refine lv_topi (fun t60 et60 => ?_)
                        have b61 : kb 1 t60 512 := kb_eq et60 (kb_shl (l := 0) (h := 9) b59 (by decide))
                        refine lv_ior hx hb dX6_partAt_127 ?_
                        refine lv_topi (fun t62 et62 => ?_)
                        have b63 : kb 0 t62 1023 := kb_eq et62 (kb_or 10 b38 b61 (by decide) (by decide) (by decide) (by decide) (by decide))
                        refine lv_istore_n (lv' := [(3, .int t62), (7, .int y44), (5, .int y45), (6, .int y29), (4, .int y46), (0, .ref (r 87)), (1, .int x), (2, .int y)]) hx hb dX6_partAt_128 rfl hl (by decide) rfl (fun ls hl => ?_)
                        obtain ⟨t64, et64⟩ : ∃ z : Int32, z = y29 + Int32.ofInt 1 := ⟨_, rfl⟩
                        have qt64 : t64.toInt = y29.toInt + 1 := by rw [et64]; exact km_inc b43 (by decide) (by decide)
                        have b65 : kb 1 t64 10 := kb_inc (k := 1) qt64 b43
                        refine lv_iinc (v := t64) (lv' := [(6, .int t64), (3, .int t62), (7, .int y44), (5, .int y45), (4, .int y46), (0, .ref (r 87)), (1, .int x), (2, .int y)]) hx hb dX6_partAt_129 hl (k := 3) rfl et64.symm (by decide) rfl (fun ls hl => ?_)
                        refine lv_goto (tgt := 41) hx hb dX6_partAt_132 (by decide) ?_
                        exact ihlp33 (sz ||| 2 ^ r_) (j + 1) r_ _ _ _ t64 y45 y46 t62 (by omega) (kb_w b65 (by decide) (by decide)) (kb_w b59 (by decide) (by decide)) b51 b63 (⟨(cl_or (t := t62) (by rw [et62, et60]) hvlp33_0.1 hr2 (by omega) (by omega)).2, or_lt hvlp33_0.2.1 hr1, or_sup hvlp33_0.2.2⟩) (by have w1 := hvlp33_1; have w2 := qt64; omega) (by have w1 := chkP ⟨sz, by omega⟩ ⟨r_, by omega⟩ (fB_t (by omega) (by omega) hr3.1); have w2 : pop (sz ||| 2 ^ r_) = pop sz + 1 := w1; have w3 := hvlp33_2; omega) ((by rw [hr4]; exact hr3.2.1)) (⟨⟨sz, y31.toInt, lp, hvlp33_4.1, hr1, hr3, rfl, hr4⟩, fun _ => hr2⟩) (by have w1 := hjy; omega) hP hD hS (lv_sub hl [0, 3, 4, 1, 5, 6, 7] rfl)
                      · have b66 : kb (-1) y45 (-1) := kb_eq c57 kc_m1
                        refine lv_iconst (v := (-1)) hx hb dX6_partAt_120 (by decide) ?_
                        exact kI_ret (v := (-1)) hx hb hr hlocks rfl hK hS dX6_partAt_121 (f9, a10, g11) hP hD ⟨(kb_w kc_m1 (by decide) (by decide)), hI, hG, hE, (Or.inr ⟨(by have z0 : (0 : Int32).toInt = 0 := (by decide +kernel); have zn : (-1 : Int32).toInt = -1 := (by decide +kernel); have z10 : (10 : Int32).toInt = 10 := (by decide +kernel); have w1 := kc_nlt c1; omega), (by (try dsimp only); rw [show a10 88 = a10 88 from rfl, ← hu_, ← hNN]; exact hwO), (by have z0 : (0 : Int32).toInt = 0 := (by decide +kernel); have zn : (-1 : Int32).toInt = -1 := (by decide +kernel); have z10 : (10 : Int32).toInt = 10 := (by decide +kernel); have hx1 : ¬ x = -1 := (fun h9 => by have w1 := congrArg Int32.toInt h9; have w2 := kc_nlt c1; omega); unfold rowsR rwN; (try dsimp only); rw [show a10 88 = a10 88 from rfl, ← hu_, ← hNN]; exact Or.inr (Or.inr ⟨hx1, (fun h9 => by have g1 := h9.2.2.2; obtain ⟨ha1, ha2, ha3⟩ := (hvlp47_1).resolve_right (fun ⟨r9, _, h8, _⟩ => by have w1 := congrArg Int32.toInt c57; omega); rw [show q = N from (by have w1 := hvlp47_0; have w2 := kc_le c55; have w3 := kvit52; have w4 := hvlp47_2; omega)] at ha2; have hall : sz = 2 ^ N - 1 := (by by_cases g2 : sz = 2 ^ N - 1; exact g2; have g3 := hwO.2 sz (by omega) hvlp33_0.2.2; have g4 := hvlp33_3; have g5 := (b51).1; omega); have g6 := chkA ⟨N, by omega⟩; have g7 : pop (2 ^ N - 1) = N := g6; have g8 := hvlp33_2; rw [hall, g7] at g8; have g9 := hjy; omega), rfl⟩))⟩), (Or.inr (by (try dsimp only); rw [show a10 88 = a10 88 from rfl, ← hu_, ← hNN]; exact hwO))⟩
                    · have h67 := (kc_nle c55)
                      have b68 : kb 0 y44 9 := kr_lt1 h67 b49 b54 (by decide)
                      have b69 : kb 1 t52 10 := kr_lt2 h67 b49 b54 (by decide)
                      refine lv_iload hx hb dX6_partAt_65 (lv_at hl 0 rfl) ?_
                      refine lv_bipush (v := 10) hx hb dX6_partAt_67 (by decide) ?_
                      refine lv_icmp_ge (tgt := 114) hx hb dX6_partAt_69 (by decide) (fun c70 => ?_) (fun c70 => ?_)
                      · have h71 := (kc_le c70)
                        exact kb_no (kr_le1 h71 kc_10 b68) (by decide)
                      · have h72 := (kc_nle c70)
                        refine lv_iload hx hb dX6_partAt_72 (lv_at hl 1 rfl) ?_
                        refine lv_iconst (v := (-1)) hx hb dX6_partAt_74 (by decide) ?_
                        refine lv_icmp_ne (tgt := 114) hx hb dX6_partAt_75 (by decide) (fun c73 => ?_) (fun c73 => ?_)
                        · have b74 : kb 0 y45 9 := kr_nel c73 b50 kc_m1 (by decide)
                          refine lv_iload hx hb dX6_partAt_114 (lv_at hl 1 rfl) ?_
                          refine lv_iconst (v := (-1)) hx hb dX6_partAt_116 (by decide) ?_
                          refine lv_icmp_ne (tgt := 122) hx hb dX6_partAt_117 (by decide) (fun c75 => ?_) (fun c75 => ?_)
                          · obtain ⟨r_, hr1, hr2, hr3, hr4⟩ := (hvlp47_1).resolve_left (fun h9 => c75 h9.1)
                            have b76 : kb 0 y45 9 := ⟨by omega, by omega⟩
                            refine lv_iload_n hx hb dX6_partAt_122 rfl (lv_at hl 4 rfl) ?_
                            refine lv_iconst (v := 1) hx hb dX6_partAt_123 (by decide) ?_
                            refine lv_iload hx hb dX6_partAt_124 (lv_at hl 1 rfl) ?_
                            refine lv_ishl hx hb dX6_partAt_126 ?_
                            refine lv_topi (fun t77 et77 => ?_)
                            have b78 : kb 1 t77 512 := kb_eq et77 (kb_shl (l := 0) (h := 9) b76 (by decide))
                            refine lv_ior hx hb dX6_partAt_127 ?_
                            refine lv_topi (fun t79 et79 => ?_)
                            have b80 : kb 0 t79 1023 := kb_eq et79 (kb_or 10 b38 b78 (by decide) (by decide) (by decide) (by decide) (by decide))
                            refine lv_istore_n (lv' := [(3, .int t79), (7, .int y44), (5, .int y45), (6, .int y29), (4, .int y46), (0, .ref (r 87)), (1, .int x), (2, .int y)]) hx hb dX6_partAt_128 rfl hl (by decide) rfl (fun ls hl => ?_)
                            obtain ⟨t81, et81⟩ : ∃ z : Int32, z = y29 + Int32.ofInt 1 := ⟨_, rfl⟩
                            have qt81 : t81.toInt = y29.toInt + 1 := by rw [et81]; exact km_inc b43 (by decide) (by decide)
                            have b82 : kb 1 t81 10 := kb_inc (k := 1) qt81 b43
                            refine lv_iinc (v := t81) (lv' := [(6, .int t81), (3, .int t79), (7, .int y44), (5, .int y45), (4, .int y46), (0, .ref (r 87)), (1, .int x), (2, .int y)]) hx hb dX6_partAt_129 hl (k := 3) rfl et81.symm (by decide) rfl (fun ls hl => ?_)
                            refine lv_goto (tgt := 41) hx hb dX6_partAt_132 (by decide) ?_
                            exact ihlp33 (sz ||| 2 ^ r_) (j + 1) r_ _ _ _ t81 y45 y46 t79 (by omega) (kb_w b82 (by decide) (by decide)) (kb_w b76 (by decide) (by decide)) b51 b80 (⟨(cl_or (t := t79) (by rw [et79, et77]) hvlp33_0.1 hr2 (by omega) (by omega)).2, or_lt hvlp33_0.2.1 hr1, or_sup hvlp33_0.2.2⟩) (by have w1 := hvlp33_1; have w2 := qt81; omega) (by have w1 := chkP ⟨sz, by omega⟩ ⟨r_, by omega⟩ (fB_t (by omega) (by omega) hr3.1); have w2 : pop (sz ||| 2 ^ r_) = pop sz + 1 := w1; have w3 := hvlp33_2; omega) ((by rw [hr4]; exact hr3.2.1)) (⟨⟨sz, y31.toInt, lp, hvlp33_4.1, hr1, hr3, rfl, hr4⟩, fun _ => hr2⟩) (by have w1 := hjy; omega) hP hD hS (lv_sub hl [0, 3, 4, 1, 5, 6, 7] rfl)
                          · exact kb_dj c75 b74 kc_m1 (by decide)
                        · have b83 : kb (-1) y45 (-1) := kb_eq c73 kc_m1
                          obtain ⟨ha1, ha2, ha3⟩ := (hvlp47_1).resolve_right (fun ⟨r9, _, h9, _⟩ => by have w1 := congrArg Int32.toInt c73; have w2 : (-1 : Int32).toInt = -1 := (by decide +kernel); omega)
                          have hqN : q < N := by have w1 := hvlp47_0; have w2 := kc_nle c55; have w3 := kvit52; omega
                          have hbn : y32 = nI sz := nI_q hvlp33_0.1
                          refine lv_aload_n hx hb dX6_partAt_78 rfl (lv_at hl 5 rfl) ?_
                          refine lv_iload_n hx hb dX6_partAt_79 rfl (lv_at hl 4 rfl) ?_
                          refine lv_iload hx hb dX6_partAt_80 (lv_at hl 0 rfl) ?_
                          refine kIG.callW (As := [.int y32, .int y44]) (rest := []) ⟨hx, hb, hml, hown, hg⟩ (z_waysWith l r f9 a10 g11 tx tt hT hI hG y32 y44 b38 b68 k (show sV 32 2 f9 a10 k from sV_cg hVw (hE.1 32 rfl) (hE.1 38 rfl) (hE.1 44 rfl) (hE.1 49 rfl) (hE.1 50 rfl) (fun j hj => hE.2.1 _ (al_c (b := 2) (J := List.range 13) (by decide +kernel) (List.mem_range.mpr hj)))) hkk sz q hbn (by omega) (nI_q hvlp47_0) (by omega)) (cwV 2 hg (kgV wt4_215 wt4_217 wp2_13 wt1_12 wt4_218) rfl rfl rfl (by decide +kernel) ⟨by decide, by decide⟩) hV hK hP hD hS hA (87) 6 rfl rfl rfl hl.1 rfl (Nat.le_of_ble_eq_true rfl) dX6_partAt_82 ⟨Nat.le_refl _, Nat.le_refl _⟩ (fun v85 u86 H locs hw84 hP hD hS => ?_)
                          have hP : va_P D vwCl (xX K r f9 a10 g11 tx) H := hP
                          have hD : va_D A (xX K r f9 a10 g11 tx) := hD
                          by_cases hf9 : fB k sz q = true
                          · have hv9 : v85 = (a10 88) (sz ||| 2 ^ q) := (show v85 = (if fB k sz q = true then (a10 88) (sz ||| 2 ^ q) else 0) from by rw [show (a10 88) = a10 88 from rfl]; exact hw84.2).trans (if_pos hf9)
                            have b87 : kb 0 v85 3628800 := kb_eq hv9 (cO_b hcD (Nat.zero_le _) (or_lt hvlp33_0.2.1 hqN) (or_sup hvlp33_0.2.2))
                            refine lv_istore (lv' := [(8, .int v85), (7, .int y44), (5, .int y45), (6, .int y29), (4, .int y46), (3, .int y32), (0, .ref (r 87)), (1, .int x), (2, .int y)]) hx hb dX6_partAt_85 hl (by decide) rfl (fun ls hl => ?_)
                            refine lv_iload hx hb dX6_partAt_87 (lv_at hl 4 rfl) ?_
                            refine lv_iload hx hb dX6_partAt_89 (lv_at hl 0 rfl) ?_
                            refine lv_icmp_ge (tgt := 101) hx hb dX6_partAt_91 (by decide) (fun c88 => ?_) (fun c88 => ?_)
                            · have h89 := (kc_le c88)
                              refine lv_iload hx hb dX6_partAt_101 (lv_at hl 4 rfl) ?_
                              refine lv_iload hx hb dX6_partAt_103 (lv_at hl 0 rfl) ?_
                              refine lv_isub hx hb dX6_partAt_105 ?_
                              refine lv_topi (fun t90 et90 => ?_)
                              have b91 : kb (-3628800) t90 2147483647 := kb_eq et90 (kb_sub b51 b87 (by decide) (by decide))
                              have qt90 : t90.toInt = y46.toInt - v85.toInt := by rw [et90]; exact kt_sub b51 b87 (by decide) (by decide)
                              refine lv_istore (lv' := [(4, .int t90), (8, .int v85), (7, .int y44), (5, .int y45), (6, .int y29), (3, .int y32), (0, .ref (r 87)), (1, .int x), (2, .int y)]) hx hb dX6_partAt_106 hl (by decide) rfl (fun ls hl => ?_)
                              have b92 : kb 0 t90 2147483647 := ⟨by have w1 := qt90; have w2 := kc_le c88; omega, (b91).2⟩
                              obtain ⟨t93, et93⟩ : ∃ z : Int32, z = y44 + Int32.ofInt 1 := ⟨_, rfl⟩
                              have qt93 : t93.toInt = y44.toInt + 1 := by rw [et93]; exact km_inc b68 (by decide) (by decide)
                              have b94 : kb 1 t93 10 := kb_inc (k := 1) qt93 b68
                              refine lv_iinc (v := t93) (lv' := [(7, .int t93), (4, .int t90), (8, .int v85), (5, .int y45), (6, .int y29), (3, .int y32), (0, .ref (r 87)), (1, .int x), (2, .int y)]) hx hb dX6_partAt_108 hl (k := 2) rfl et93.symm (by decide) rfl (fun ls hl => ?_)
                              refine lv_goto (tgt := 53) hx hb dX6_partAt_111 (by decide) ?_
                              exact ihlp47 (q + 1) _ _ _ t93 y45 t90 (by omega) (kb_w b94 (by decide) (by decide)) (kb_w b83 (by decide) (by decide)) b92 (by have w1 := hvlp47_0; have w2 := qt93; omega) (Or.inl ⟨ha1, (by rw [pS_y hf9, ← hv9]; have w1 := qt90; have w2 := ha2; omega), fun q2 h2 hf => by by_cases c9 : q2 = q; (rw [c9, ← hv9]; have w1 := kc_le c88; have w2 := ha2; omega); exact ha3 q2 (by omega) hf⟩) (hqN) hP hD hS (lv_sub hl [0, 3, 4, 1, 5, 6, 7, 8] rfl)
                            · have h95 := (kc_nle c88)
                              have b96 : kb 0 y46 3628799 := kr_lt1 h95 b51 b87 (by decide)
                              have b97 : kb 1 v85 3628800 := kr_lt2 h95 b51 b87 (by decide)
                              refine lv_iload hx hb dX6_partAt_94 (lv_at hl 1 rfl) ?_
                              refine lv_istore (lv' := [(5, .int y44), (8, .int v85), (7, .int y44), (6, .int y29), (4, .int y46), (3, .int y32), (0, .ref (r 87)), (1, .int x), (2, .int y)]) hx hb dX6_partAt_96 hl (by decide) rfl (fun ls hl => ?_)
                              refine lv_goto (tgt := 108) hx hb dX6_partAt_98 (by decide) ?_
                              obtain ⟨t98, et98⟩ : ∃ z : Int32, z = y44 + Int32.ofInt 1 := ⟨_, rfl⟩
                              have qt98 : t98.toInt = y44.toInt + 1 := by rw [et98]; exact km_inc b68 (by decide) (by decide)
                              have b99 : kb 1 t98 10 := kb_inc (k := 1) qt98 b68
                              refine lv_iinc (v := t98) (lv' := [(7, .int t98), (5, .int y44), (8, .int v85), (6, .int y29), (4, .int y46), (3, .int y32), (0, .ref (r 87)), (1, .int x), (2, .int y)]) hx hb dX6_partAt_108 hl (k := 2) rfl et98.symm (by decide) rfl (fun ls hl => ?_)
                              refine lv_goto (tgt := 53) hx hb dX6_partAt_111 (by decide) ?_
                              exact ihlp47 (q + 1) _ _ _ t98 y44 y46 (by omega) (kb_w b99 (by decide) (by decide)) (kb_w b68 (by decide) (by decide)) (kb_w b96 (by decide) (by decide)) (by have w1 := hvlp47_0; have w2 := qt98; omega) (Or.inr ⟨q, hqN, hvlp47_0, ⟨hf9, (by rw [← hv9]; have w1 := kc_nle c88; have w2 := ha2; omega), ha3⟩, (by have w2 := ha2; omega)⟩) (hqN) hP hD hS (lv_sub hl [0, 1, 3, 4, 5, 6, 7, 8] rfl)
                          · refine k_top (z := 0) ((show v85 = (if fB k sz q = true then (a10 88) (sz ||| 2 ^ q) else 0) from by rw [show (a10 88) = a10 88 from rfl]; exact hw84.2).trans (if_neg hf9)) ?_
                            refine lv_istore (lv' := [(8, .int 0), (7, .int y44), (5, .int y45), (6, .int y29), (4, .int y46), (3, .int y32), (0, .ref (r 87)), (1, .int x), (2, .int y)]) hx hb dX6_partAt_85 hl (by decide) rfl (fun ls hl => ?_)
                            refine lv_iload hx hb dX6_partAt_87 (lv_at hl 4 rfl) ?_
                            refine lv_iload hx hb dX6_partAt_89 (lv_at hl 0 rfl) ?_
                            refine lv_icmp_ge (tgt := 101) hx hb dX6_partAt_91 (by decide) (fun c100 => ?_) (fun c100 => ?_)
                            · have h101 := (kc_le c100)
                              refine lv_iload hx hb dX6_partAt_101 (lv_at hl 4 rfl) ?_
                              refine lv_iload hx hb dX6_partAt_103 (lv_at hl 0 rfl) ?_
                              refine lv_isub hx hb dX6_partAt_105 ?_
                              refine lv_topi (fun t102 et102 => ?_)
                              have b103 : kb 0 t102 2147483647 := kb_eq et102 (kb_sub b51 kc_0 (by decide) (by decide))
                              have qt102 : t102.toInt = y46.toInt - 0 := by rw [et102]; exact kt_subc b51 kc_0 (by decide) (by decide)
                              refine lv_istore (lv' := [(4, .int t102), (8, .int 0), (7, .int y44), (5, .int y45), (6, .int y29), (3, .int y32), (0, .ref (r 87)), (1, .int x), (2, .int y)]) hx hb dX6_partAt_106 hl (by decide) rfl (fun ls hl => ?_)
                              obtain ⟨t104, et104⟩ : ∃ z : Int32, z = y44 + Int32.ofInt 1 := ⟨_, rfl⟩
                              have qt104 : t104.toInt = y44.toInt + 1 := by rw [et104]; exact km_inc b68 (by decide) (by decide)
                              have b105 : kb 1 t104 10 := kb_inc (k := 1) qt104 b68
                              refine lv_iinc (v := t104) (lv' := [(7, .int t104), (4, .int t102), (8, .int 0), (5, .int y45), (6, .int y29), (3, .int y32), (0, .ref (r 87)), (1, .int x), (2, .int y)]) hx hb dX6_partAt_108 hl (k := 2) rfl et104.symm (by decide) rfl (fun ls hl => ?_)
                              refine lv_goto (tgt := 53) hx hb dX6_partAt_111 (by decide) ?_
                              exact ihlp47 (q + 1) _ _ _ t104 y45 t102 (by omega) (kb_w b105 (by decide) (by decide)) (kb_w b83 (by decide) (by decide)) b103 (by have w1 := hvlp47_0; have w2 := qt104; omega) (Or.inl ⟨ha1, (by rw [pS_n hf9]; have w1 := qt102; have w2 := ha2; omega), fun q2 h2 hf => by by_cases c9 : q2 = q; (rw [c9] at hf; exact absurd hf hf9); exact ha3 q2 (by omega) hf⟩) (hqN) hP hD hS (lv_sub hl [0, 3, 4, 1, 5, 6, 7, 8] rfl)
                            · have h106 := (kc_nle c100)
                              exact kb_no (kr_lt1 h106 b51 kc_0 (H := (-1)) (by decide)) (by decide)
                exact lp47 (N + 1) 0 _ _ _ 0 (-1) y31 (by omega) (kb_w kc_0 (by decide) (by decide)) (kb_w kc_m1 (by decide) (by decide)) b37 (by decide +kernel) (Or.inl ⟨rfl, by show y31.toInt + 0 = y31.toInt; omega, fun q2 h2 => absurd h2 (Nat.not_lt_zero q2)⟩) (Nat.zero_le _) hP hD hS (lv_sub hl [0, 1, 2, 3, 4, 5, 6, 7] rfl)
          exact lp33 (12) u_ 0 0 _ _ _ 0 (-1) x v27 (by have w1 := (b25).2; omega) (kb_w kc_0 (by decide) (by decide)) (kb_w kc_m1 (by decide) (by decide)) (kb_w b16 (by decide) (by decide)) hw26.1 (⟨by rw [hup, kn_to (by omega)], hu1, and_self_ u_⟩) (by decide +kernel) (by omega) (hx0) (⟨⟨rfl, rfl⟩, fun z9 => absurd z9 (Nat.lt_irrefl 0)⟩) (by have w1 := hy0; omega) hP hD hS (lv_sub hl [0, 1, 2, 3, 4, 5, 6] rfl)
        · have h107 := (kc_nlt c23)
          have b108 : kb 10 y 2147483647 := kr_le2 h107 kc_10 b22
          refine lv_iconst (v := (-1)) hx hb dX6_partAt_22 (by decide) ?_
          exact kI_ret (v := (-1)) hx hb hr hlocks rfl hK hS dX6_partAt_23 (f9, a10, g11) hP hD ⟨(kb_w kc_m1 (by decide) (by decide)), hI, hG, hE, (Or.inr ⟨(by have z0 : (0 : Int32).toInt = 0 := (by decide +kernel); have zn : (-1 : Int32).toInt = -1 := (by decide +kernel); have z10 : (10 : Int32).toInt = 10 := (by decide +kernel); have w1 := kc_nlt c1; omega), (by (try dsimp only); rw [show a10 88 = a10 88 from rfl, ← hu_, ← hNN]; exact hwO), (by have z0 : (0 : Int32).toInt = 0 := (by decide +kernel); have zn : (-1 : Int32).toInt = -1 := (by decide +kernel); have z10 : (10 : Int32).toInt = 10 := (by decide +kernel); have hx1 : ¬ x = -1 := (fun h9 => by have w1 := congrArg Int32.toInt h9; have w2 := kc_nlt c1; omega); unfold rowsR rwN; (try dsimp only); rw [show a10 88 = a10 88 from rfl, ← hu_, ← hNN]; exact Or.inr (Or.inr ⟨hx1, (fun h9 => by have w1 := h9.2.2.2; have w2 := kc_nlt c23; omega), rfl⟩))⟩), (Or.inr (by (try dsimp only); rw [show a10 88 = a10 88 from rfl, ← hu_, ← hNN]; exact hwO))⟩
set_option maxHeartbeats 4000000 in
set_option maxRecDepth 100000 in
theorem z_rows  (l : Launch) {D : va_G} {K : Nat → ClassId} (r : Nat → Nat) (f : Nat → Int32) (a : Nat → Nat → Int32) (g : xG) (tx tt : va_W) (hT : ∀ c ∈ tt, c ∈ tx) (hI : xI f a) (hG : gOK K g.2 tt) (x : Int32) (y : Int32)  (k : Nat → Int32) (hVw : sV 32 2 f a k) (hkk : kK k)  (hp0 : f 2786 = 0 ∨ wOR k (kPn k) (bM (upB k) (kPn k)) (a 88)) : kIG l yX11_rows (Cond.code yX11_rows cX11_rows 3 (some .int) :: kG) (rmD 5 0 0) D K [.ref (r 0), .int x, .int y] (xX K r f a g tx) (fun v (u : xS) => kb (-2147483648) v 2147483647 ∧ xI u.1 u.2.1 ∧ gOK K u.2.2.2 tt ∧ xEk ([2786], [88], []) f a g u.1 u.2.1 u.2.2 ∧ ((x.toInt < -1 ∧ v = -1) ∨ (wOR k (kPn k) (bM (upB k) (kPn k)) (u.2.1 88) ∧ rowsR k (u.2.1 88) x y v)) ∧ (u.1 2786 = 0 ∨ wOR k (kPn k) (bM (upB k) (kPn k)) (u.2.1 88))) (fun u => xX K r u.1 u.2.1 u.2.2 tx) 0 0 := by
  refine kIE.of (cc := cX11_rows) (maxL := 3) (ret := (some .int)) (by decide) rfl (Nat.le_of_ble_eq_true rfl) ?_
  intro p e s m below meth c A hx hb hr hml hown hts hlocks hnm hK hP hD hS hA hV ls hl
  have hE : xEk ([2786], [88], []) f a g f a g := xEk_rf
  have hg : ∀ w ∈ kG, w.before _ s = true := fun w h => hts w (List.mem_cons_of_mem _ h)
  have hown : s.vm.findClass RX11 = some m.cls := hown
  have hl : lv_has ls 3 [(0, .ref (r 0)), (1, .int x), (2, .int y)] := hl
  refine lv_iload_n hx hb dX11_rows_0 rfl (lv_at hl 1 rfl) ?_
  refine lv_iconst (v := (-1)) hx hb dX11_rows_1 (by decide) ?_
  refine lv_icmp_ne (tgt := 15) hx hb dX11_rows_2 (by decide) (fun c1 => ?_) (fun c1 => ?_)
  · refine lv_aload_n hx hb dX11_rows_15 rfl (lv_at hl 0 rfl) ?_
    refine va_get (D := D) (ci := 11) (v := .ref (r 87)) (C := RX11) (T := TX11) (N := 17) hx hb hg inC11 hown hK hP 0 rfl rfl 7 (by decide) (hg _ wt2_193) (fun _ h9 => h9) rfl dX11_rows_16 ?_
    refine lv_iload_n hx hb dX11_rows_19 rfl (lv_at hl 1 rfl) ?_
    refine lv_iload_n hx hb dX11_rows_20 rfl (lv_at hl 2 rfl) ?_
    refine kIG.callW (As := [.int x, .int y]) (rest := []) ⟨hx, hb, hml, hown, hg⟩ (z_partAt l r f a g tx tt hT hI hG x y  k hVw hkk hp0) (cwV 2 hg (kgV wt4_219 wt4_220 wt4_221 wt1_12 wt4_222) rfl rfl rfl (by decide +kernel) ⟨by decide, by decide⟩) hV hK hP hD hS hA (87) 6 rfl rfl rfl hl.1 rfl (Nat.le_of_ble_eq_true rfl) dX11_rows_21 ⟨Nat.le_refl _, Nat.le_refl _⟩ (fun v3 u4 H locs hw2 hP hD hS => ?_)
    obtain ⟨f5, a6, g7⟩ := u4
    have hP : va_P D vwCl (xX K r f5 a6 g7 tx) H := hP
    have hD : va_D A (xX K r f5 a6 g7 tx) := hD
    have hI : xI f5 a6 := hw2.2.1
    have hG : gOK K g7.2 tt := hw2.2.2.1
    have eE8 : xEk ([2786], [88], []) f a g f5 a6 g7 := hw2.2.2.2.1
    have hE : xEk ([2786], [88], []) f a g f5 a6 g7 := xEk_tr hE eE8
    exact kI_ret (v := v3) hx hb hr hlocks rfl hK hS dX11_rows_24 (f5, a6, g7) hP hD ⟨(kb_any v3), hI, hG, hE, ((hw2.2.2.2.2.1).elim (fun h9 => Or.inl ⟨(by have w1 := h9.1; have w2 : ¬ x.toInt = -1 := (fun z9 => c1 (Int32.toInt_inj.mp (z9.trans (by decide +kernel)))); omega), h9.2⟩) (fun h9 => Or.inr h9.2)), hw2.2.2.2.2.2⟩
  · have b9 : kb (-1) x (-1) := kb_eq c1 kc_m1
    refine lv_aload_n hx hb dX11_rows_5 rfl (lv_at hl 0 rfl) ?_
    refine va_get (D := D) (ci := 11) (v := .ref (r 87)) (C := RX11) (T := TX11) (N := 17) hx hb hg inC11 hown hK hP 0 rfl rfl 7 (by decide) (hg _ wt2_193) (fun _ h9 => h9) rfl dX11_rows_6 ?_
    refine kIG.callW (As := []) (rest := []) ⟨hx, hb, hml, hown, hg⟩ (z_total l r f a g tx tt hT hI hG   k hVw hkk hp0) (cwV 0 hg (kgV wt4_205 wt4_206 wt4_207 wt1_12 wt4_208) rfl rfl rfl (by decide +kernel) ⟨by decide, by decide⟩) hV hK hP hD hS hA (87) 6 rfl rfl rfl hl.1 rfl (Nat.le_of_ble_eq_true rfl) dX11_rows_9 ⟨Nat.le_refl _, Nat.le_refl _⟩ (fun v11 u12 H locs hw10 hP hD hS => ?_)
    obtain ⟨f13, a14, g15⟩ := u12
    have hP : va_P D vwCl (xX K r f13 a14 g15 tx) H := hP
    have hD : va_D A (xX K r f13 a14 g15 tx) := hD
    have hI : xI f13 a14 := hw10.2.1
    have hG : gOK K g15.2 tt := hw10.2.2.1
    have eE16 : xEk ([2786], [88], []) f a g f13 a14 g15 := hw10.2.2.2.1
    have hE : xEk ([2786], [88], []) f a g f13 a14 g15 := xEk_tr hE eE16
    refine lv_goto (tgt := 24) hx hb dX11_rows_12 (by decide) ?_
    exact kI_ret (v := v11) hx hb hr hlocks rfl hK hS dX11_rows_24 (f13, a14, g15) hP hD ⟨(kb_any v11), hI, hG, hE, (Or.inr ⟨hw10.2.2.2.2.2, Or.inl ⟨c1, hw10.2.2.2.2.1⟩⟩), (Or.inr hw10.2.2.2.2.2)⟩
