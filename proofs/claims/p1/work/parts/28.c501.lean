set_option maxHeartbeats 4000000 in
set_option maxRecDepth 100000 in
theorem x_taught (l : Launch) {D : va_G} {K : Nat → ClassId} (r : Nat → Nat) (f : Nat → Int32) (a : Nat → Nat → Int32) (g : xG) (h0 : f 32 = 0) (h1 : f 38 = 0) (h2 : f 44 = 0) (h3 : a 11 0 = 0) (h4 : a 11 1 = 30) (h5 : a 11 2 = 2) (h6 : f 1858 = (-1)) (h7 : f 50 = (-1)) (h8 : (∀ i, g.2 15 i = none)) (h9 : a 81 0 = (-2)) (h10 : f 2566 = 0) (x : Int32)  : kI l yX11_taught (Cond.code yX11_taught cX11_taught 2 (some .int) :: kG) (rmD 7 0 0) D (tysK K) [.ref (r 0), .int x] (xW K r f a g) (fun v (u : xS) => v = (-1)) (fun u => xW K r u.1 u.2.1 u.2.2) 0 0 := by
  refine kI.of (cc := cX11_taught) (maxL := 2) (ret := (some .int)) (by decide) rfl (Nat.le_of_ble_eq_true rfl) ?_
  intro p e s m below meth c A hx hb hr hml hown hts hlocks hnm hK hP hD hS hA ls hl
  have hg : ∀ w ∈ kG, w.before _ s = true := fun w h => hts w (List.mem_cons_of_mem _ h)
  have hown : s.vm.findClass RX11 = some m.cls := hown
  have hl : lv_has ls 2 [(0, .ref (r 0)), (1, .int x)] := hl
  by_cases q1 : x = 0
  · subst q1
    have hl : lv_has ls 2 [(0, .ref (r 0)), (1, .int 0)] := hl
    refine lv_iload_n hx hb dX11_taught_0 rfl (lv_at hl 1 rfl) ?_
    refine lv_if_lt (tgt := 9) hx hb dX11_taught_1 (by decide) (fun c2 => absurd c2 (by decide +kernel)) (fun c2 => ?_)
    refine lv_iload_n hx hb dX11_taught_4 rfl (lv_at hl 1 rfl) ?_
    refine lv_iconst (v := 2) hx hb dX11_taught_5 (by decide) ?_
    refine lv_icmp_le (tgt := 13) hx hb dX11_taught_6 (by decide) (fun c3 => ?_) (fun c3 => absurd (by decide +kernel) c3)
    refine lv_aload_n hx hb dX11_taught_13 rfl (lv_at hl 0 rfl) ?_
    refine va_get (D := D) (ci := 11) (v := .ref (r 80)) (C := RX11) (T := TX11) (N := 17) hx hb hg inC11 hown hK hP 0 rfl rfl 6 (by decide) (hg _ wt2_192) (fun _ h9 => h9) rfl dX11_taught_14 ?_
    refine lv_iload_n hx hb dX11_taught_17 rfl (lv_at hl 1 rfl) ?_
    refine kI.callW (As := [.int 0]) (rest := []) ⟨hx, hb, hml, hown, hg⟩ (x_bestLesson0 l r f a g h0 h1 h2 h3 h4 h5 h6 h7 h8 h9 h10 ) (cwV 1 hg (kgV wt5_47 wt5_48 wt5_49 wt1_11 wt5_50) rfl rfl rfl (by decide +kernel) ⟨by decide, by decide⟩) hK hP hD hS hA 80 9 rfl rfl rfl hl.1 rfl (Nat.le_of_ble_eq_true rfl) dX11_taught_18 ⟨by decide, by decide⟩ (fun v6 u5 H locs hw4 hP hD hS => ?_)
    obtain ⟨f7, a8, g9⟩ := u5
    have hP : va_P D vwCl (xW K r f7 a8 g9) H := hP
    have hD : va_D A (xW K r f7 a8 g9) := hD
    refine k_top (z := (-1)) (hw4) ?_
    exact kI_ret (v := (-1)) hx hb hr hlocks rfl hK hS dX11_taught_21 (f7, a8, g9) hP hD rfl
  by_cases q10 : x = 1
  · subst q10
    have hl : lv_has ls 2 [(0, .ref (r 0)), (1, .int 1)] := hl
    refine lv_iload_n hx hb dX11_taught_0 rfl (lv_at hl 1 rfl) ?_
    refine lv_if_lt (tgt := 9) hx hb dX11_taught_1 (by decide) (fun c11 => absurd c11 (by decide +kernel)) (fun c11 => ?_)
    refine lv_iload_n hx hb dX11_taught_4 rfl (lv_at hl 1 rfl) ?_
    refine lv_iconst (v := 2) hx hb dX11_taught_5 (by decide) ?_
    refine lv_icmp_le (tgt := 13) hx hb dX11_taught_6 (by decide) (fun c12 => ?_) (fun c12 => absurd (by decide +kernel) c12)
    refine lv_aload_n hx hb dX11_taught_13 rfl (lv_at hl 0 rfl) ?_
    refine va_get (D := D) (ci := 11) (v := .ref (r 80)) (C := RX11) (T := TX11) (N := 17) hx hb hg inC11 hown hK hP 0 rfl rfl 6 (by decide) (hg _ wt2_192) (fun _ h9 => h9) rfl dX11_taught_14 ?_
    refine lv_iload_n hx hb dX11_taught_17 rfl (lv_at hl 1 rfl) ?_
    refine kI.callW (As := [.int 1]) (rest := []) ⟨hx, hb, hml, hown, hg⟩ (x_bestLesson1 l r f a g h0 h1 h2 h3 h4 h5 h6 h7 h8 h9 h10 ) (cwV 1 hg (kgV wt5_47 wt5_48 wt5_49 wt1_11 wt5_50) rfl rfl rfl (by decide +kernel) ⟨by decide, by decide⟩) hK hP hD hS hA 80 9 rfl rfl rfl hl.1 rfl (Nat.le_of_ble_eq_true rfl) dX11_taught_18 ⟨by decide, by decide⟩ (fun v15 u14 H locs hw13 hP hD hS => ?_)
    obtain ⟨f16, a17, g18⟩ := u14
    have hP : va_P D vwCl (xW K r f16 a17 g18) H := hP
    have hD : va_D A (xW K r f16 a17 g18) := hD
    refine k_top (z := (-1)) (hw13) ?_
    exact kI_ret (v := (-1)) hx hb hr hlocks rfl hK hS dX11_taught_21 (f16, a17, g18) hP hD rfl
  by_cases q19 : x = 2
  · subst q19
    have hl : lv_has ls 2 [(0, .ref (r 0)), (1, .int 2)] := hl
    refine lv_iload_n hx hb dX11_taught_0 rfl (lv_at hl 1 rfl) ?_
    refine lv_if_lt (tgt := 9) hx hb dX11_taught_1 (by decide) (fun c20 => absurd c20 (by decide +kernel)) (fun c20 => ?_)
    refine lv_iload_n hx hb dX11_taught_4 rfl (lv_at hl 1 rfl) ?_
    refine lv_iconst (v := 2) hx hb dX11_taught_5 (by decide) ?_
    refine lv_icmp_le (tgt := 13) hx hb dX11_taught_6 (by decide) (fun c21 => ?_) (fun c21 => absurd (by decide +kernel) c21)
    refine lv_aload_n hx hb dX11_taught_13 rfl (lv_at hl 0 rfl) ?_
    refine va_get (D := D) (ci := 11) (v := .ref (r 80)) (C := RX11) (T := TX11) (N := 17) hx hb hg inC11 hown hK hP 0 rfl rfl 6 (by decide) (hg _ wt2_192) (fun _ h9 => h9) rfl dX11_taught_14 ?_
    refine lv_iload_n hx hb dX11_taught_17 rfl (lv_at hl 1 rfl) ?_
    refine kI.callW (As := [.int 2]) (rest := []) ⟨hx, hb, hml, hown, hg⟩ (x_bestLesson2 l r f a g h0 h1 h2 h3 h4 h5 h6 h7 h8 h9 h10 ) (cwV 1 hg (kgV wt5_47 wt5_48 wt5_49 wt1_11 wt5_50) rfl rfl rfl (by decide +kernel) ⟨by decide, by decide⟩) hK hP hD hS hA 80 9 rfl rfl rfl hl.1 rfl (Nat.le_of_ble_eq_true rfl) dX11_taught_18 ⟨by decide, by decide⟩ (fun v24 u23 H locs hw22 hP hD hS => ?_)
    obtain ⟨f25, a26, g27⟩ := u23
    have hP : va_P D vwCl (xW K r f25 a26 g27) H := hP
    have hD : va_D A (xW K r f25 a26 g27) := hD
    refine k_top (z := (-1)) (hw22) ?_
    exact kI_ret (v := (-1)) hx hb hr hlocks rfl hK hS dX11_taught_21 (f25, a26, g27) hP hD rfl
  refine lv_iload_n hx hb dX11_taught_0 rfl (lv_at hl 1 rfl) ?_
  refine lv_if_lt (tgt := 9) hx hb dX11_taught_1 (by decide) (fun c28 => ?_) (fun c28 => ?_)
  · refine lv_iconst (v := (-1)) hx hb dX11_taught_9 (by decide) ?_
    refine lv_goto (tgt := 21) hx hb dX11_taught_10 (by decide) ?_
    exact kI_ret (v := (-1)) hx hb hr hlocks rfl hK hS dX11_taught_21 (f, a, g) hP hD rfl
  · refine lv_iload_n hx hb dX11_taught_4 rfl (lv_at hl 1 rfl) ?_
    refine lv_iconst (v := 2) hx hb dX11_taught_5 (by decide) ?_
    refine lv_icmp_le (tgt := 13) hx hb dX11_taught_6 (by decide) (fun c29 => absurd (xgt2 q1 q10 q19 c28) (Int32.not_lt.mpr c29)) (fun c29 => ?_)
    refine lv_iconst (v := (-1)) hx hb dX11_taught_9 (by decide) ?_
    refine lv_goto (tgt := 21) hx hb dX11_taught_10 (by decide) ?_
    exact kI_ret (v := (-1)) hx hb hr hlocks rfl hK hS dX11_taught_21 (f, a, g) hP hD rfl
set_option maxHeartbeats 4000000 in
set_option maxRecDepth 100000 in
theorem x_back (l : Launch) {D : va_G} {K : Nat → ClassId} (r : Nat → Nat) (f : Nat → Int32) (a : Nat → Nat → Int32) (g : xG) (h0 : (∀ i, g.2 92 i = none)) (x : Int32)  : kI l yX11_back (Cond.code yX11_back cX11_back 2 (some .int) :: kG) (rmD 2 0 0) D (tysK K) [.ref (r 0), .int x] (xW K r f a g) (fun v (u : xS) => v = (if x = 0 then (-2 : Int32) else if x = 1 then -2 else -1)) (fun u => xW K r u.1 u.2.1 u.2.2) 0 0 := by
  refine kI.of (cc := cX11_back) (maxL := 2) (ret := (some .int)) (by decide) rfl (Nat.le_of_ble_eq_true rfl) ?_
  intro p e s m below meth c A hx hb hr hml hown hts hlocks hnm hK hP hD hS hA ls hl
  have hg : ∀ w ∈ kG, w.before _ s = true := fun w h => hts w (List.mem_cons_of_mem _ h)
  have hown : s.vm.findClass RX11 = some m.cls := hown
  have hl : lv_has ls 2 [(0, .ref (r 0)), (1, .int x)] := hl
  by_cases q1 : x = 0
  · subst q1
    have hl : lv_has ls 2 [(0, .ref (r 0)), (1, .int 0)] := hl
    refine lv_iload_n hx hb dX11_back_0 rfl (lv_at hl 1 rfl) ?_
    refine lv_if_lt (tgt := 9) hx hb dX11_back_1 (by decide) (fun c2 => absurd c2 (by decide +kernel)) (fun c2 => ?_)
    refine lv_iload_n hx hb dX11_back_4 rfl (lv_at hl 1 rfl) ?_
    refine lv_iconst (v := 2) hx hb dX11_back_5 (by decide) ?_
    refine lv_icmp_lt (tgt := 15) hx hb dX11_back_6 (by decide) (fun c3 => ?_) (fun c3 => absurd (by decide +kernel) c3)
    refine lv_aload_n hx hb dX11_back_15 rfl (lv_at hl 0 rfl) ?_
    refine va_get (D := D) (ci := 11) (v := .ref (r 92)) (C := RX11) (T := TX11) (N := 17) hx hb hg inC11 hown hK hP 0 rfl rfl 9 (by decide) (hg _ wt2_195) (fun _ h9 => h9) rfl dX11_back_16 ?_
    refine lv_iload_n hx hb dX11_back_19 rfl (lv_at hl 1 rfl) ?_
    refine va_aldq hx hb hK hP 92 4 rfl rfl (k_in (by decide +kernel)) dX11_back_20 ?_
    rw [cl_0]
    refine k_topn (h0 0) ?_
    refine lv_ifnonnullN hx hb dX11_back_21 ?_
    refine lv_aload_n hx hb dX11_back_24 rfl (lv_at hl 0 rfl) ?_
    refine lv_bipush (v := (-2)) hx hb dX11_back_25 (by decide) ?_
    refine kI.callW (As := [.int (-2)]) (rest := []) ⟨hx, hb, hml, hown, hg⟩ (x_refuse2 l r f a g  ) (cwV 1 hg (kgV wt3_7 wt3_9 wp1_0 wt1_1 wt3_10) rfl rfl rfl (by decide +kernel) ⟨by decide, by decide⟩) hK hP hD hS hA 0 11 rfl rfl rfl hl.1 rfl (Nat.le_of_ble_eq_true rfl) dX11_back_27 ⟨by decide, by decide⟩ (fun v6 u5 H locs hw4 hP hD hS => ?_)
    obtain ⟨f7, a8, g9⟩ := u5
    have hP : va_P D vwCl (xW K r f7 a8 g9) H := hP
    have hD : va_D A (xW K r f7 a8 g9) := hD
    refine k_top (z := (-2)) (hw4) ?_
    exact kI_ret (v := (-2)) hx hb hr hlocks rfl hK hS dX11_back_30 (f7, a8, g9) hP hD (by decide +kernel)
  by_cases q10 : x = 1
  · subst q10
    have hl : lv_has ls 2 [(0, .ref (r 0)), (1, .int 1)] := hl
    refine lv_iload_n hx hb dX11_back_0 rfl (lv_at hl 1 rfl) ?_
    refine lv_if_lt (tgt := 9) hx hb dX11_back_1 (by decide) (fun c11 => absurd c11 (by decide +kernel)) (fun c11 => ?_)
    refine lv_iload_n hx hb dX11_back_4 rfl (lv_at hl 1 rfl) ?_
    refine lv_iconst (v := 2) hx hb dX11_back_5 (by decide) ?_
    refine lv_icmp_lt (tgt := 15) hx hb dX11_back_6 (by decide) (fun c12 => ?_) (fun c12 => absurd (by decide +kernel) c12)
    refine lv_aload_n hx hb dX11_back_15 rfl (lv_at hl 0 rfl) ?_
    refine va_get (D := D) (ci := 11) (v := .ref (r 92)) (C := RX11) (T := TX11) (N := 17) hx hb hg inC11 hown hK hP 0 rfl rfl 9 (by decide) (hg _ wt2_195) (fun _ h9 => h9) rfl dX11_back_16 ?_
    refine lv_iload_n hx hb dX11_back_19 rfl (lv_at hl 1 rfl) ?_
    refine va_aldq hx hb hK hP 92 4 rfl rfl (k_in (by decide +kernel)) dX11_back_20 ?_
    rw [cl_1]
    refine k_topn (h0 1) ?_
    refine lv_ifnonnullN hx hb dX11_back_21 ?_
    refine lv_aload_n hx hb dX11_back_24 rfl (lv_at hl 0 rfl) ?_
    refine lv_bipush (v := (-2)) hx hb dX11_back_25 (by decide) ?_
    refine kI.callW (As := [.int (-2)]) (rest := []) ⟨hx, hb, hml, hown, hg⟩ (x_refuse2 l r f a g  ) (cwV 1 hg (kgV wt3_7 wt3_9 wp1_0 wt1_1 wt3_10) rfl rfl rfl (by decide +kernel) ⟨by decide, by decide⟩) hK hP hD hS hA 0 11 rfl rfl rfl hl.1 rfl (Nat.le_of_ble_eq_true rfl) dX11_back_27 ⟨by decide, by decide⟩ (fun v15 u14 H locs hw13 hP hD hS => ?_)
    obtain ⟨f16, a17, g18⟩ := u14
    have hP : va_P D vwCl (xW K r f16 a17 g18) H := hP
    have hD : va_D A (xW K r f16 a17 g18) := hD
    refine k_top (z := (-2)) (hw13) ?_
    exact kI_ret (v := (-2)) hx hb hr hlocks rfl hK hS dX11_back_30 (f16, a17, g18) hP hD (by decide +kernel)
  refine lv_iload_n hx hb dX11_back_0 rfl (lv_at hl 1 rfl) ?_
  refine lv_if_lt (tgt := 9) hx hb dX11_back_1 (by decide) (fun c19 => ?_) (fun c19 => ?_)
  · refine lv_aload_n hx hb dX11_back_9 rfl (lv_at hl 0 rfl) ?_
    refine lv_iconst (v := (-1)) hx hb dX11_back_10 (by decide) ?_
    refine kI.callW (As := [.int (-1)]) (rest := []) ⟨hx, hb, hml, hown, hg⟩ (x_refuse1 l r f a g  ) (cwV 1 hg (kgV wt3_7 wt3_9 wp1_0 wt1_1 wt3_10) rfl rfl rfl (by decide +kernel) ⟨by decide, by decide⟩) hK hP hD hS hA 0 11 rfl rfl rfl hl.1 rfl (Nat.le_of_ble_eq_true rfl) dX11_back_11 ⟨by decide, by decide⟩ (fun v22 u21 H locs hw20 hP hD hS => ?_)
    obtain ⟨f23, a24, g25⟩ := u21
    have hP : va_P D vwCl (xW K r f23 a24 g25) H := hP
    have hD : va_D A (xW K r f23 a24 g25) := hD
    refine k_top (z := (-1)) (hw20) ?_
    exact kI_ret (v := (-1)) hx hb hr hlocks rfl hK hS dX11_back_14 (f23, a24, g25) hP hD (by rw [if_neg q1, if_neg q10])
  · refine lv_iload_n hx hb dX11_back_4 rfl (lv_at hl 1 rfl) ?_
    refine lv_iconst (v := 2) hx hb dX11_back_5 (by decide) ?_
    refine lv_icmp_lt (tgt := 15) hx hb dX11_back_6 (by decide) (fun c26 => absurd c26 (xge2 q1 q10 c19)) (fun c26 => ?_)
    refine lv_aload_n hx hb dX11_back_9 rfl (lv_at hl 0 rfl) ?_
    refine lv_iconst (v := (-1)) hx hb dX11_back_10 (by decide) ?_
    refine kI.callW (As := [.int (-1)]) (rest := []) ⟨hx, hb, hml, hown, hg⟩ (x_refuse1 l r f a g  ) (cwV 1 hg (kgV wt3_7 wt3_9 wp1_0 wt1_1 wt3_10) rfl rfl rfl (by decide +kernel) ⟨by decide, by decide⟩) hK hP hD hS hA 0 11 rfl rfl rfl hl.1 rfl (Nat.le_of_ble_eq_true rfl) dX11_back_11 ⟨by decide, by decide⟩ (fun v29 u28 H locs hw27 hP hD hS => ?_)
    obtain ⟨f30, a31, g32⟩ := u28
    have hP : va_P D vwCl (xW K r f30 a31 g32) H := hP
    have hD : va_D A (xW K r f30 a31 g32) := hD
    refine k_top (z := (-1)) (hw27) ?_
    exact kI_ret (v := (-1)) hx hb hr hlocks rfl hK hS dX11_back_14 (f30, a31, g32) hP hD (by rw [if_neg q1, if_neg q10])
set_option maxHeartbeats 4000000 in
set_option maxRecDepth 100000 in
theorem x_count (l : Launch) {D : va_G} {K : Nat → ClassId} (r : Nat → Nat) (f : Nat → Int32) (a : Nat → Nat → Int32) (g : xG) (h0 : f 32 = 0) (h1 : f 38 = 0) (h2 : f 44 = 0) (h3 : f 49 = 0) (h4 : f 704 = 0) (h5 : f 12 = 0) (h6 : f 50 = (-1)) (h7 : a 11 0 = 0) (h8 : a 11 1 = 30) (h9 : a 11 2 = 2) (h10 : a 11 3 = 0) (h11 : a 94 0 = 0) (h12 : a 94 1 = 0) (h13 : a 94 2 = 0) (h14 : a 94 3 = 0) (h15 : a 94 4 = 0) (x : Int32)  : kI l yX11_count (Cond.code yX11_count cX11_count 2 (some .int) :: kG) (rmD 2 0 0) D (tysK K) [.ref (r 0), .int x] (xW K r f a g) (fun v (_ : Unit) => v = mCount x) (fun _ => xW K r f a g) 0 0 := by
  refine kI.of (cc := cX11_count) (maxL := 2) (ret := (some .int)) (by decide) rfl (Nat.le_of_ble_eq_true rfl) ?_
  intro p e s m below meth c A hx hb hr hml hown hts hlocks hnm hK hP hD hS hA ls hl
  have hg : ∀ w ∈ kG, w.before _ s = true := fun w h => hts w (List.mem_cons_of_mem _ h)
  have hown : s.vm.findClass RX11 = some m.cls := hown
  have hl : lv_has ls 2 [(0, .ref (r 0)), (1, .int x)] := hl
  by_cases q1 : x = 7
  · subst q1
    have hl : lv_has ls 2 [(0, .ref (r 0)), (1, .int 7)] := hl
    refine lv_iload_n hx hb dX11_count_0 rfl (lv_at hl 1 rfl) ?_
    refine lv_bipush (v := 7) hx hb dX11_count_1 (by decide) ?_
    refine lv_icmp_lt (tgt := 22) hx hb dX11_count_3 (by decide) (fun c2 => absurd c2 (by decide +kernel)) (fun c2 => ?_)
    refine lv_iload_n hx hb dX11_count_6 rfl (lv_at hl 1 rfl) ?_
    refine lv_bipush (v := 11) hx hb dX11_count_7 (by decide) ?_
    refine lv_icmp_gt (tgt := 22) hx hb dX11_count_9 (by decide) (fun c3 => absurd c3 (by decide +kernel)) (fun c3 => ?_)
    refine lv_aload_n hx hb dX11_count_12 rfl (lv_at hl 0 rfl) ?_
    refine va_get (D := D) (ci := 11) (v := .ref (r 94)) (C := RX11) (T := TX11) (N := 17) hx hb hg inC11 hown hK hP 0 rfl rfl 11 (by decide) (hg _ wt2_197) (fun _ h9 => h9) rfl dX11_count_13 ?_
    refine lv_iload_n hx hb dX11_count_16 rfl (lv_at hl 1 rfl) ?_
    refine lv_bipush (v := 7) hx hb dX11_count_17 (by decide) ?_
    refine lv_isub hx hb dX11_count_19 ?_
    refine k_top (z := 0) (by decide +kernel) ?_
    refine va_iald hx hb hK hP 94 0 rfl rfl (k_in (by decide +kernel)) dX11_count_20 ?_
    refine k_top (z := 0) (by rw [cl_0]; exact h11) ?_
    exact kI_ret (v := 0) hx hb hr hlocks rfl hK hS dX11_count_21 () hP hD (by decide +kernel)
  by_cases q4 : x = 8
  · subst q4
    have hl : lv_has ls 2 [(0, .ref (r 0)), (1, .int 8)] := hl
    refine lv_iload_n hx hb dX11_count_0 rfl (lv_at hl 1 rfl) ?_
    refine lv_bipush (v := 7) hx hb dX11_count_1 (by decide) ?_
    refine lv_icmp_lt (tgt := 22) hx hb dX11_count_3 (by decide) (fun c5 => absurd c5 (by decide +kernel)) (fun c5 => ?_)
    refine lv_iload_n hx hb dX11_count_6 rfl (lv_at hl 1 rfl) ?_
    refine lv_bipush (v := 11) hx hb dX11_count_7 (by decide) ?_
    refine lv_icmp_gt (tgt := 22) hx hb dX11_count_9 (by decide) (fun c6 => absurd c6 (by decide +kernel)) (fun c6 => ?_)
    refine lv_aload_n hx hb dX11_count_12 rfl (lv_at hl 0 rfl) ?_
    refine va_get (D := D) (ci := 11) (v := .ref (r 94)) (C := RX11) (T := TX11) (N := 17) hx hb hg inC11 hown hK hP 0 rfl rfl 11 (by decide) (hg _ wt2_197) (fun _ h9 => h9) rfl dX11_count_13 ?_
    refine lv_iload_n hx hb dX11_count_16 rfl (lv_at hl 1 rfl) ?_
    refine lv_bipush (v := 7) hx hb dX11_count_17 (by decide) ?_
    refine lv_isub hx hb dX11_count_19 ?_
    refine k_top (z := 1) (by decide +kernel) ?_
    refine va_iald hx hb hK hP 94 0 rfl rfl (k_in (by decide +kernel)) dX11_count_20 ?_
    refine k_top (z := 0) (by rw [cl_1]; exact h12) ?_
    exact kI_ret (v := 0) hx hb hr hlocks rfl hK hS dX11_count_21 () hP hD (by decide +kernel)
  by_cases q7 : x = 9
  · subst q7
    have hl : lv_has ls 2 [(0, .ref (r 0)), (1, .int 9)] := hl
    refine lv_iload_n hx hb dX11_count_0 rfl (lv_at hl 1 rfl) ?_
    refine lv_bipush (v := 7) hx hb dX11_count_1 (by decide) ?_
    refine lv_icmp_lt (tgt := 22) hx hb dX11_count_3 (by decide) (fun c8 => absurd c8 (by decide +kernel)) (fun c8 => ?_)
    refine lv_iload_n hx hb dX11_count_6 rfl (lv_at hl 1 rfl) ?_
    refine lv_bipush (v := 11) hx hb dX11_count_7 (by decide) ?_
    refine lv_icmp_gt (tgt := 22) hx hb dX11_count_9 (by decide) (fun c9 => absurd c9 (by decide +kernel)) (fun c9 => ?_)
    refine lv_aload_n hx hb dX11_count_12 rfl (lv_at hl 0 rfl) ?_
    refine va_get (D := D) (ci := 11) (v := .ref (r 94)) (C := RX11) (T := TX11) (N := 17) hx hb hg inC11 hown hK hP 0 rfl rfl 11 (by decide) (hg _ wt2_197) (fun _ h9 => h9) rfl dX11_count_13 ?_
    refine lv_iload_n hx hb dX11_count_16 rfl (lv_at hl 1 rfl) ?_
    refine lv_bipush (v := 7) hx hb dX11_count_17 (by decide) ?_
    refine lv_isub hx hb dX11_count_19 ?_
    refine k_top (z := 2) (by decide +kernel) ?_
    refine va_iald hx hb hK hP 94 0 rfl rfl (k_in (by decide +kernel)) dX11_count_20 ?_
    refine k_top (z := 0) (by rw [cl_2]; exact h13) ?_
    exact kI_ret (v := 0) hx hb hr hlocks rfl hK hS dX11_count_21 () hP hD (by decide +kernel)
  by_cases q10 : x = 10
  · subst q10
    have hl : lv_has ls 2 [(0, .ref (r 0)), (1, .int 10)] := hl
    refine lv_iload_n hx hb dX11_count_0 rfl (lv_at hl 1 rfl) ?_
    refine lv_bipush (v := 7) hx hb dX11_count_1 (by decide) ?_
    refine lv_icmp_lt (tgt := 22) hx hb dX11_count_3 (by decide) (fun c11 => absurd c11 (by decide +kernel)) (fun c11 => ?_)
    refine lv_iload_n hx hb dX11_count_6 rfl (lv_at hl 1 rfl) ?_
    refine lv_bipush (v := 11) hx hb dX11_count_7 (by decide) ?_
    refine lv_icmp_gt (tgt := 22) hx hb dX11_count_9 (by decide) (fun c12 => absurd c12 (by decide +kernel)) (fun c12 => ?_)
    refine lv_aload_n hx hb dX11_count_12 rfl (lv_at hl 0 rfl) ?_
    refine va_get (D := D) (ci := 11) (v := .ref (r 94)) (C := RX11) (T := TX11) (N := 17) hx hb hg inC11 hown hK hP 0 rfl rfl 11 (by decide) (hg _ wt2_197) (fun _ h9 => h9) rfl dX11_count_13 ?_
    refine lv_iload_n hx hb dX11_count_16 rfl (lv_at hl 1 rfl) ?_
    refine lv_bipush (v := 7) hx hb dX11_count_17 (by decide) ?_
    refine lv_isub hx hb dX11_count_19 ?_
    refine k_top (z := 3) (by decide +kernel) ?_
    refine va_iald hx hb hK hP 94 0 rfl rfl (k_in (by decide +kernel)) dX11_count_20 ?_
    refine k_top (z := 0) (by rw [cl_3]; exact h14) ?_
    exact kI_ret (v := 0) hx hb hr hlocks rfl hK hS dX11_count_21 () hP hD (by decide +kernel)
  by_cases q13 : x = 11
  · subst q13
    have hl : lv_has ls 2 [(0, .ref (r 0)), (1, .int 11)] := hl
    refine lv_iload_n hx hb dX11_count_0 rfl (lv_at hl 1 rfl) ?_
    refine lv_bipush (v := 7) hx hb dX11_count_1 (by decide) ?_
    refine lv_icmp_lt (tgt := 22) hx hb dX11_count_3 (by decide) (fun c14 => absurd c14 (by decide +kernel)) (fun c14 => ?_)
    refine lv_iload_n hx hb dX11_count_6 rfl (lv_at hl 1 rfl) ?_
    refine lv_bipush (v := 11) hx hb dX11_count_7 (by decide) ?_
    refine lv_icmp_gt (tgt := 22) hx hb dX11_count_9 (by decide) (fun c15 => absurd c15 (by decide +kernel)) (fun c15 => ?_)
    refine lv_aload_n hx hb dX11_count_12 rfl (lv_at hl 0 rfl) ?_
    refine va_get (D := D) (ci := 11) (v := .ref (r 94)) (C := RX11) (T := TX11) (N := 17) hx hb hg inC11 hown hK hP 0 rfl rfl 11 (by decide) (hg _ wt2_197) (fun _ h9 => h9) rfl dX11_count_13 ?_
    refine lv_iload_n hx hb dX11_count_16 rfl (lv_at hl 1 rfl) ?_
    refine lv_bipush (v := 7) hx hb dX11_count_17 (by decide) ?_
    refine lv_isub hx hb dX11_count_19 ?_
    refine k_top (z := 4) (by decide +kernel) ?_
    refine va_iald hx hb hK hP 94 0 rfl rfl (k_in (by decide +kernel)) dX11_count_20 ?_
    refine k_top (z := 0) (by rw [cl_4]; exact h15) ?_
    exact kI_ret (v := 0) hx hb hr hlocks rfl hK hS dX11_count_21 () hP hD (by decide +kernel)
  by_cases q16 : x = 13
  · subst q16
    have hl : lv_has ls 2 [(0, .ref (r 0)), (1, .int 13)] := hl
    refine lv_iload_n hx hb dX11_count_0 rfl (lv_at hl 1 rfl) ?_
    refine lv_bipush (v := 7) hx hb dX11_count_1 (by decide) ?_
    refine lv_icmp_lt (tgt := 22) hx hb dX11_count_3 (by decide) (fun c17 => absurd c17 (by decide +kernel)) (fun c17 => ?_)
    refine lv_iload_n hx hb dX11_count_6 rfl (lv_at hl 1 rfl) ?_
    refine lv_bipush (v := 11) hx hb dX11_count_7 (by decide) ?_
    refine lv_icmp_gt (tgt := 22) hx hb dX11_count_9 (by decide) (fun c18 => ?_) (fun c18 => absurd (by decide +kernel) c18)
    refine lv_iload_n hx hb dX11_count_22 rfl (lv_at hl 1 rfl) ?_
    refine lv_bipush (v := 13) hx hb dX11_count_23 (by decide) ?_
    refine lv_icmp_lt (tgt := 47) hx hb dX11_count_25 (by decide) (fun c19 => absurd c19 (by decide +kernel)) (fun c19 => ?_)
    refine lv_iload_n hx hb dX11_count_28 rfl (lv_at hl 1 rfl) ?_
    refine lv_bipush (v := 16) hx hb dX11_count_29 (by decide) ?_
    refine lv_icmp_gt (tgt := 47) hx hb dX11_count_31 (by decide) (fun c20 => absurd c20 (by decide +kernel)) (fun c20 => ?_)
    refine lv_aload_n hx hb dX11_count_34 rfl (lv_at hl 0 rfl) ?_
    refine va_get (D := D) (ci := 11) (v := .ref (r 1)) (C := RX11) (T := TX11) (N := 17) hx hb hg inC11 hown hK hP 0 rfl rfl 0 (by decide) (hg _ wt2_186) (fun _ h9 => h9) rfl dX11_count_35 ?_
    refine va_get (D := D) (ci := 7) (v := .ref (r 11)) (C := RX7) (T := TX7) (N := 20) hx hb hg inC7 hown hK hP 1 rfl rfl 11 (by decide) (hg _ wt1_134) (fun _ h9 => h9) rfl dX11_count_38 ?_
    refine lv_iload_n hx hb dX11_count_41 rfl (lv_at hl 1 rfl) ?_
    refine lv_bipush (v := 13) hx hb dX11_count_42 (by decide) ?_
    refine lv_isub hx hb dX11_count_44 ?_
    refine k_top (z := 0) (by decide +kernel) ?_
    refine va_iald hx hb hK hP 11 0 rfl rfl (k_in (by decide +kernel)) dX11_count_45 ?_
    refine k_top (z := 0) (by rw [cl_0]; exact h7) ?_
    exact kI_ret (v := 0) hx hb hr hlocks rfl hK hS dX11_count_46 () hP hD (by decide +kernel)
  by_cases q21 : x = 14
  · subst q21
    have hl : lv_has ls 2 [(0, .ref (r 0)), (1, .int 14)] := hl
    refine lv_iload_n hx hb dX11_count_0 rfl (lv_at hl 1 rfl) ?_
    refine lv_bipush (v := 7) hx hb dX11_count_1 (by decide) ?_
    refine lv_icmp_lt (tgt := 22) hx hb dX11_count_3 (by decide) (fun c22 => absurd c22 (by decide +kernel)) (fun c22 => ?_)
    refine lv_iload_n hx hb dX11_count_6 rfl (lv_at hl 1 rfl) ?_
    refine lv_bipush (v := 11) hx hb dX11_count_7 (by decide) ?_
    refine lv_icmp_gt (tgt := 22) hx hb dX11_count_9 (by decide) (fun c23 => ?_) (fun c23 => absurd (by decide +kernel) c23)
    refine lv_iload_n hx hb dX11_count_22 rfl (lv_at hl 1 rfl) ?_
    refine lv_bipush (v := 13) hx hb dX11_count_23 (by decide) ?_
    refine lv_icmp_lt (tgt := 47) hx hb dX11_count_25 (by decide) (fun c24 => absurd c24 (by decide +kernel)) (fun c24 => ?_)
    refine lv_iload_n hx hb dX11_count_28 rfl (lv_at hl 1 rfl) ?_
    refine lv_bipush (v := 16) hx hb dX11_count_29 (by decide) ?_
    refine lv_icmp_gt (tgt := 47) hx hb dX11_count_31 (by decide) (fun c25 => absurd c25 (by decide +kernel)) (fun c25 => ?_)
    refine lv_aload_n hx hb dX11_count_34 rfl (lv_at hl 0 rfl) ?_
    refine va_get (D := D) (ci := 11) (v := .ref (r 1)) (C := RX11) (T := TX11) (N := 17) hx hb hg inC11 hown hK hP 0 rfl rfl 0 (by decide) (hg _ wt2_186) (fun _ h9 => h9) rfl dX11_count_35 ?_
    refine va_get (D := D) (ci := 7) (v := .ref (r 11)) (C := RX7) (T := TX7) (N := 20) hx hb hg inC7 hown hK hP 1 rfl rfl 11 (by decide) (hg _ wt1_134) (fun _ h9 => h9) rfl dX11_count_38 ?_
    refine lv_iload_n hx hb dX11_count_41 rfl (lv_at hl 1 rfl) ?_
    refine lv_bipush (v := 13) hx hb dX11_count_42 (by decide) ?_
    refine lv_isub hx hb dX11_count_44 ?_
    refine k_top (z := 1) (by decide +kernel) ?_
    refine va_iald hx hb hK hP 11 0 rfl rfl (k_in (by decide +kernel)) dX11_count_45 ?_
    refine k_top (z := 30) (by rw [cl_1]; exact h8) ?_
    exact kI_ret (v := 30) hx hb hr hlocks rfl hK hS dX11_count_46 () hP hD (by decide +kernel)
  by_cases q26 : x = 15
  · subst q26
    have hl : lv_has ls 2 [(0, .ref (r 0)), (1, .int 15)] := hl
    refine lv_iload_n hx hb dX11_count_0 rfl (lv_at hl 1 rfl) ?_
    refine lv_bipush (v := 7) hx hb dX11_count_1 (by decide) ?_
    refine lv_icmp_lt (tgt := 22) hx hb dX11_count_3 (by decide) (fun c27 => absurd c27 (by decide +kernel)) (fun c27 => ?_)
    refine lv_iload_n hx hb dX11_count_6 rfl (lv_at hl 1 rfl) ?_
    refine lv_bipush (v := 11) hx hb dX11_count_7 (by decide) ?_
    refine lv_icmp_gt (tgt := 22) hx hb dX11_count_9 (by decide) (fun c28 => ?_) (fun c28 => absurd (by decide +kernel) c28)
    refine lv_iload_n hx hb dX11_count_22 rfl (lv_at hl 1 rfl) ?_
    refine lv_bipush (v := 13) hx hb dX11_count_23 (by decide) ?_
    refine lv_icmp_lt (tgt := 47) hx hb dX11_count_25 (by decide) (fun c29 => absurd c29 (by decide +kernel)) (fun c29 => ?_)
    refine lv_iload_n hx hb dX11_count_28 rfl (lv_at hl 1 rfl) ?_
    refine lv_bipush (v := 16) hx hb dX11_count_29 (by decide) ?_
    refine lv_icmp_gt (tgt := 47) hx hb dX11_count_31 (by decide) (fun c30 => absurd c30 (by decide +kernel)) (fun c30 => ?_)
    refine lv_aload_n hx hb dX11_count_34 rfl (lv_at hl 0 rfl) ?_
    refine va_get (D := D) (ci := 11) (v := .ref (r 1)) (C := RX11) (T := TX11) (N := 17) hx hb hg inC11 hown hK hP 0 rfl rfl 0 (by decide) (hg _ wt2_186) (fun _ h9 => h9) rfl dX11_count_35 ?_
    refine va_get (D := D) (ci := 7) (v := .ref (r 11)) (C := RX7) (T := TX7) (N := 20) hx hb hg inC7 hown hK hP 1 rfl rfl 11 (by decide) (hg _ wt1_134) (fun _ h9 => h9) rfl dX11_count_38 ?_
    refine lv_iload_n hx hb dX11_count_41 rfl (lv_at hl 1 rfl) ?_
    refine lv_bipush (v := 13) hx hb dX11_count_42 (by decide) ?_
    refine lv_isub hx hb dX11_count_44 ?_
    refine k_top (z := 2) (by decide +kernel) ?_
    refine va_iald hx hb hK hP 11 0 rfl rfl (k_in (by decide +kernel)) dX11_count_45 ?_
    refine k_top (z := 2) (by rw [cl_2]; exact h9) ?_
    exact kI_ret (v := 2) hx hb hr hlocks rfl hK hS dX11_count_46 () hP hD (by decide +kernel)
  by_cases q31 : x = 16
  · subst q31
    have hl : lv_has ls 2 [(0, .ref (r 0)), (1, .int 16)] := hl
    refine lv_iload_n hx hb dX11_count_0 rfl (lv_at hl 1 rfl) ?_
    refine lv_bipush (v := 7) hx hb dX11_count_1 (by decide) ?_
    refine lv_icmp_lt (tgt := 22) hx hb dX11_count_3 (by decide) (fun c32 => absurd c32 (by decide +kernel)) (fun c32 => ?_)
    refine lv_iload_n hx hb dX11_count_6 rfl (lv_at hl 1 rfl) ?_
    refine lv_bipush (v := 11) hx hb dX11_count_7 (by decide) ?_
    refine lv_icmp_gt (tgt := 22) hx hb dX11_count_9 (by decide) (fun c33 => ?_) (fun c33 => absurd (by decide +kernel) c33)
    refine lv_iload_n hx hb dX11_count_22 rfl (lv_at hl 1 rfl) ?_
    refine lv_bipush (v := 13) hx hb dX11_count_23 (by decide) ?_
    refine lv_icmp_lt (tgt := 47) hx hb dX11_count_25 (by decide) (fun c34 => absurd c34 (by decide +kernel)) (fun c34 => ?_)
    refine lv_iload_n hx hb dX11_count_28 rfl (lv_at hl 1 rfl) ?_
    refine lv_bipush (v := 16) hx hb dX11_count_29 (by decide) ?_
    refine lv_icmp_gt (tgt := 47) hx hb dX11_count_31 (by decide) (fun c35 => absurd c35 (by decide +kernel)) (fun c35 => ?_)
    refine lv_aload_n hx hb dX11_count_34 rfl (lv_at hl 0 rfl) ?_
    refine va_get (D := D) (ci := 11) (v := .ref (r 1)) (C := RX11) (T := TX11) (N := 17) hx hb hg inC11 hown hK hP 0 rfl rfl 0 (by decide) (hg _ wt2_186) (fun _ h9 => h9) rfl dX11_count_35 ?_
    refine va_get (D := D) (ci := 7) (v := .ref (r 11)) (C := RX7) (T := TX7) (N := 20) hx hb hg inC7 hown hK hP 1 rfl rfl 11 (by decide) (hg _ wt1_134) (fun _ h9 => h9) rfl dX11_count_38 ?_
    refine lv_iload_n hx hb dX11_count_41 rfl (lv_at hl 1 rfl) ?_
    refine lv_bipush (v := 13) hx hb dX11_count_42 (by decide) ?_
    refine lv_isub hx hb dX11_count_44 ?_
    refine k_top (z := 3) (by decide +kernel) ?_
    refine va_iald hx hb hK hP 11 0 rfl rfl (k_in (by decide +kernel)) dX11_count_45 ?_
    refine k_top (z := 0) (by rw [cl_3]; exact h10) ?_
    exact kI_ret (v := 0) hx hb hr hlocks rfl hK hS dX11_count_46 () hP hD (by decide +kernel)
  refine lv_iload_n hx hb dX11_count_0 rfl (lv_at hl 1 rfl) ?_
  refine lv_bipush (v := 7) hx hb dX11_count_1 (by decide) ?_
  refine lv_icmp_lt (tgt := 22) hx hb dX11_count_3 (by decide) (fun c36 => ?_) (fun c36 => ?_)
  · refine lv_iload_n hx hb dX11_count_22 rfl (lv_at hl 1 rfl) ?_
    refine lv_bipush (v := 13) hx hb dX11_count_23 (by decide) ?_
    refine lv_icmp_lt (tgt := 47) hx hb dX11_count_25 (by decide) (fun c37 => ?_) (fun c37 => ?_)
    · refine lv_iload_n hx hb dX11_count_47 rfl (lv_at hl 1 rfl) ?_
      by_cases q38 : x = 0
      · subst q38
        refine lv_tableIn (tgt := 116) hx hb dX11_count_48 (by decide +kernel) (by decide +kernel) (by rfl) (by decide) ?_
        refine lv_aload_n hx hb dX11_count_116 rfl (lv_at hl 0 rfl) ?_
        refine va_get (D := D) (ci := 11) (v := .ref (r 1)) (C := RX11) (T := TX11) (N := 17) hx hb hg inC11 hown hK hP 0 rfl rfl 0 (by decide) (hg _ wt2_186) (fun _ h9 => h9) rfl dX11_count_117 ?_
        refine va_get (D := D) (ci := 7) (v := .int (f 32)) (C := RX7) (T := TX7) (N := 20) hx hb hg inC7 hown hK hP 1 rfl rfl 0 (by decide) (hg _ wt1_85) (fun _ h9 => h9) rfl dX11_count_120 ?_
        refine k_top (z := 0) h0 ?_
        exact kI_ret (v := 0) hx hb hr hlocks rfl hK hS dX11_count_123 () hP hD (by decide +kernel)
      by_cases q39 : x = 1
      · subst q39
        refine lv_tableIn (tgt := 124) hx hb dX11_count_48 (by decide +kernel) (by decide +kernel) (by rfl) (by decide) ?_
        refine lv_aload_n hx hb dX11_count_124 rfl (lv_at hl 0 rfl) ?_
        refine va_get (D := D) (ci := 11) (v := .ref (r 1)) (C := RX11) (T := TX11) (N := 17) hx hb hg inC11 hown hK hP 0 rfl rfl 0 (by decide) (hg _ wt2_186) (fun _ h9 => h9) rfl dX11_count_125 ?_
        refine kI.callW (As := []) (rest := []) ⟨hx, hb, hml, hown, hg⟩ (x_upMask_now l r f a g h0 ) (cwV 0 hg (kgV wt4_164 wt3_44 wt3_45 wt1_2 wt3_46) rfl rfl rfl (by decide +kernel) ⟨by decide, by decide⟩) hK hP hD hS hA 1 7 rfl rfl rfl hl.1 rfl (Nat.le_of_ble_eq_true rfl) dX11_count_128 ⟨by decide, by decide⟩ (fun v42 u41 H locs hw40 hP hD hS => ?_)
        have hP : va_P D vwCl (xW K r f a g) H := hP
        have hD : va_D A (xW K r f a g) := hD
        refine k_top (z := 0) (hw40) ?_
        refine kN.callS (As := [.int 0]) (rest := []) ⟨hx, hb, hml, hown, hg⟩ (x_bitCount0 l ) (va_cwS 1 hg (kgS wt5_42 wt4_99 wt1_21 wt4_100) rfl rfl rfl (by decide +kernel) ⟨by decide, by decide⟩) hP hS rfl hl.1 rfl (Nat.le_of_ble_eq_true rfl) dX11_count_131 ⟨by decide, by decide⟩ (fun v44 H locs hw43 hP hS => ?_)
        refine k_top (z := 0) (hw43) ?_
        exact kI_ret (v := 0) hx hb hr hlocks rfl hK hS dX11_count_134 () hP hD (by decide +kernel)
      by_cases q45 : x = 2
      · subst q45
        refine lv_tableIn (tgt := 135) hx hb dX11_count_48 (by decide +kernel) (by decide +kernel) (by rfl) (by decide) ?_
        refine lv_aload_n hx hb dX11_count_135 rfl (lv_at hl 0 rfl) ?_
        refine va_get (D := D) (ci := 11) (v := .ref (r 1)) (C := RX11) (T := TX11) (N := 17) hx hb hg inC11 hown hK hP 0 rfl rfl 0 (by decide) (hg _ wt2_186) (fun _ h9 => h9) rfl dX11_count_136 ?_
        refine va_get (D := D) (ci := 7) (v := .int (f 38)) (C := RX7) (T := TX7) (N := 20) hx hb hg inC7 hown hK hP 1 rfl rfl 6 (by decide) (hg _ wt1_109) (fun _ h9 => h9) rfl dX11_count_139 ?_
        refine k_top (z := 0) h1 ?_
        exact kI_ret (v := 0) hx hb hr hlocks rfl hK hS dX11_count_142 () hP hD (by decide +kernel)
      by_cases q46 : x = 3
      · subst q46
        refine lv_tableIn (tgt := 143) hx hb dX11_count_48 (by decide +kernel) (by decide +kernel) (by rfl) (by decide) ?_
        refine lv_aload_n hx hb dX11_count_143 rfl (lv_at hl 0 rfl) ?_
        refine va_get (D := D) (ci := 11) (v := .ref (r 1)) (C := RX11) (T := TX11) (N := 17) hx hb hg inC11 hown hK hP 0 rfl rfl 0 (by decide) (hg _ wt2_186) (fun _ h9 => h9) rfl dX11_count_144 ?_
        refine va_get (D := D) (ci := 7) (v := .int (f 44)) (C := RX7) (T := TX7) (N := 20) hx hb hg inC7 hown hK hP 1 rfl rfl 12 (by decide) (hg _ wt1_137) (fun _ h9 => h9) rfl dX11_count_147 ?_
        refine k_top (z := 0) h2 ?_
        exact kI_ret (v := 0) hx hb hr hlocks rfl hK hS dX11_count_150 () hP hD (by decide +kernel)
      by_cases q47 : x = 4
      · subst q47
        refine lv_tableIn (tgt := 151) hx hb dX11_count_48 (by decide +kernel) (by decide +kernel) (by rfl) (by decide) ?_
        refine lv_aload_n hx hb dX11_count_151 rfl (lv_at hl 0 rfl) ?_
        refine va_get (D := D) (ci := 11) (v := .ref (r 1)) (C := RX11) (T := TX11) (N := 17) hx hb hg inC11 hown hK hP 0 rfl rfl 0 (by decide) (hg _ wt2_186) (fun _ h9 => h9) rfl dX11_count_152 ?_
        refine va_get (D := D) (ci := 7) (v := .int (f 49)) (C := RX7) (T := TX7) (N := 20) hx hb hg inC7 hown hK hP 1 rfl rfl 17 (by decide) (hg _ wt1_150) (fun _ h9 => h9) rfl dX11_count_155 ?_
        refine k_top (z := 0) h3 ?_
        exact kI_ret (v := 0) hx hb hr hlocks rfl hK hS dX11_count_158 () hP hD (by decide +kernel)
      by_cases q48 : x = 5
      · subst q48
        refine lv_tableIn (tgt := 159) hx hb dX11_count_48 (by decide +kernel) (by decide +kernel) (by rfl) (by decide) ?_
        refine lv_aload_n hx hb dX11_count_159 rfl (lv_at hl 0 rfl) ?_
        refine va_get (D := D) (ci := 11) (v := .ref (r 22)) (C := RX11) (T := TX11) (N := 17) hx hb hg inC11 hown hK hP 0 rfl rfl 1 (by decide) (hg _ wt2_187) (fun _ h9 => h9) rfl dX11_count_160 ?_
        refine va_get (D := D) (ci := 2) (v := .int (f 704)) (C := RX2) (T := TX2) (N := 3) hx hb hg inC2 hown hK hP 22 rfl rfl 0 (by decide) (hg _ wt1_206) (fun _ h9 => h9) rfl dX11_count_163 ?_
        refine k_top (z := 0) h4 ?_
        exact kI_ret (v := 0) hx hb hr hlocks rfl hK hS dX11_count_166 () hP hD (by decide +kernel)
      by_cases q49 : x = 6
      · subst q49
        refine lv_tableIn (tgt := 167) hx hb dX11_count_48 (by decide +kernel) (by decide +kernel) (by rfl) (by decide) ?_
        refine lv_aload_n hx hb dX11_count_167 rfl (lv_at hl 0 rfl) ?_
        refine va_get (D := D) (ci := 11) (v := .int (f 12)) (C := RX11) (T := TX11) (N := 17) hx hb hg inC11 hown hK hP 0 rfl rfl 12 (by decide) (hg _ wt2_198) (fun _ h9 => h9) rfl dX11_count_168 ?_
        refine k_top (z := 0) h5 ?_
        exact kI_ret (v := 0) hx hb hr hlocks rfl hK hS dX11_count_171 () hP hD (by decide +kernel)
      by_cases q50 : x = 12
      · subst q50
        refine lv_tableIn (tgt := 172) hx hb dX11_count_48 (by decide +kernel) (by decide +kernel) (by rfl) (by decide) ?_
        refine lv_aload_n hx hb dX11_count_172 rfl (lv_at hl 0 rfl) ?_
        refine va_get (D := D) (ci := 11) (v := .ref (r 1)) (C := RX11) (T := TX11) (N := 17) hx hb hg inC11 hown hK hP 0 rfl rfl 0 (by decide) (hg _ wt2_186) (fun _ h9 => h9) rfl dX11_count_173 ?_
        refine va_get (D := D) (ci := 7) (v := .int (f 50)) (C := RX7) (T := TX7) (N := 20) hx hb hg inC7 hown hK hP 1 rfl rfl 18 (by decide) (hg _ wt1_153) (fun _ h9 => h9) rfl dX11_count_176 ?_
        refine k_top (z := (-1)) h6 ?_
        exact kI_ret (v := (-1)) hx hb hr hlocks rfl hK hS dX11_count_179 () hP hD (by decide +kernel)
      refine lv_tableOut (tgt := 180) hx hb dX11_count_48 (by have gq38 := lv_neT q38 (a := 0) (by decide +kernel); have gq39 := lv_neT q39 (a := 1) (by decide +kernel); have gq45 := lv_neT q45 (a := 2) (by decide +kernel); have gq46 := lv_neT q46 (a := 3) (by decide +kernel); have gq47 := lv_neT q47 (a := 4) (by decide +kernel); have gq48 := lv_neT q48 (a := 5) (by decide +kernel); have gq49 := lv_neT q49 (a := 6) (by decide +kernel); have gq1 := lv_neT q1 (a := 7) (by decide +kernel); have gq4 := lv_neT q4 (a := 8) (by decide +kernel); have gq7 := lv_neT q7 (a := 9) (by decide +kernel); have gq10 := lv_neT q10 (a := 10) (by decide +kernel); have gq13 := lv_neT q13 (a := 11) (by decide +kernel); have gq50 := lv_neT q50 (a := 12) (by decide +kernel); omega) (by decide) ?_
      refine lv_iconst (v := (-1)) hx hb dX11_count_180 (by decide) ?_
      exact kI_ret (v := (-1)) hx hb hr hlocks rfl hK hS dX11_count_181 () hP hD (by simp [mCount, q1, q4, q7, q10, q13, q16, q21, q26, q31, q38, q39, q45, q46, q47, q48, q49, q1, q4, q7, q10, q13, q50])
    · refine lv_iload_n hx hb dX11_count_28 rfl (lv_at hl 1 rfl) ?_
      refine lv_bipush (v := 16) hx hb dX11_count_29 (by decide) ?_
      refine lv_icmp_gt (tgt := 47) hx hb dX11_count_31 (by decide) (fun c51 => ?_) (fun c51 => absurd (xc_b q16 q21 q26 q31 c37) c51)
      refine lv_iload_n hx hb dX11_count_47 rfl (lv_at hl 1 rfl) ?_
      by_cases q52 : x = 0
      · subst q52
        refine lv_tableIn (tgt := 116) hx hb dX11_count_48 (by decide +kernel) (by decide +kernel) (by rfl) (by decide) ?_
        refine lv_aload_n hx hb dX11_count_116 rfl (lv_at hl 0 rfl) ?_
        refine va_get (D := D) (ci := 11) (v := .ref (r 1)) (C := RX11) (T := TX11) (N := 17) hx hb hg inC11 hown hK hP 0 rfl rfl 0 (by decide) (hg _ wt2_186) (fun _ h9 => h9) rfl dX11_count_117 ?_
        refine va_get (D := D) (ci := 7) (v := .int (f 32)) (C := RX7) (T := TX7) (N := 20) hx hb hg inC7 hown hK hP 1 rfl rfl 0 (by decide) (hg _ wt1_85) (fun _ h9 => h9) rfl dX11_count_120 ?_
        refine k_top (z := 0) h0 ?_
        exact kI_ret (v := 0) hx hb hr hlocks rfl hK hS dX11_count_123 () hP hD (by decide +kernel)
      by_cases q53 : x = 1
      · subst q53
        refine lv_tableIn (tgt := 124) hx hb dX11_count_48 (by decide +kernel) (by decide +kernel) (by rfl) (by decide) ?_
        refine lv_aload_n hx hb dX11_count_124 rfl (lv_at hl 0 rfl) ?_
        refine va_get (D := D) (ci := 11) (v := .ref (r 1)) (C := RX11) (T := TX11) (N := 17) hx hb hg inC11 hown hK hP 0 rfl rfl 0 (by decide) (hg _ wt2_186) (fun _ h9 => h9) rfl dX11_count_125 ?_
        refine kI.callW (As := []) (rest := []) ⟨hx, hb, hml, hown, hg⟩ (x_upMask_now l r f a g h0 ) (cwV 0 hg (kgV wt4_164 wt3_44 wt3_45 wt1_2 wt3_46) rfl rfl rfl (by decide +kernel) ⟨by decide, by decide⟩) hK hP hD hS hA 1 7 rfl rfl rfl hl.1 rfl (Nat.le_of_ble_eq_true rfl) dX11_count_128 ⟨by decide, by decide⟩ (fun v56 u55 H locs hw54 hP hD hS => ?_)
        have hP : va_P D vwCl (xW K r f a g) H := hP
        have hD : va_D A (xW K r f a g) := hD
        refine k_top (z := 0) (hw54) ?_
        refine kN.callS (As := [.int 0]) (rest := []) ⟨hx, hb, hml, hown, hg⟩ (x_bitCount0 l ) (va_cwS 1 hg (kgS wt5_42 wt4_99 wt1_21 wt4_100) rfl rfl rfl (by decide +kernel) ⟨by decide, by decide⟩) hP hS rfl hl.1 rfl (Nat.le_of_ble_eq_true rfl) dX11_count_131 ⟨by decide, by decide⟩ (fun v58 H locs hw57 hP hS => ?_)
        refine k_top (z := 0) (hw57) ?_
        exact kI_ret (v := 0) hx hb hr hlocks rfl hK hS dX11_count_134 () hP hD (by decide +kernel)
      by_cases q59 : x = 2
      · subst q59
        refine lv_tableIn (tgt := 135) hx hb dX11_count_48 (by decide +kernel) (by decide +kernel) (by rfl) (by decide) ?_
        refine lv_aload_n hx hb dX11_count_135 rfl (lv_at hl 0 rfl) ?_
        refine va_get (D := D) (ci := 11) (v := .ref (r 1)) (C := RX11) (T := TX11) (N := 17) hx hb hg inC11 hown hK hP 0 rfl rfl 0 (by decide) (hg _ wt2_186) (fun _ h9 => h9) rfl dX11_count_136 ?_
        refine va_get (D := D) (ci := 7) (v := .int (f 38)) (C := RX7) (T := TX7) (N := 20) hx hb hg inC7 hown hK hP 1 rfl rfl 6 (by decide) (hg _ wt1_109) (fun _ h9 => h9) rfl dX11_count_139 ?_
        refine k_top (z := 0) h1 ?_
        exact kI_ret (v := 0) hx hb hr hlocks rfl hK hS dX11_count_142 () hP hD (by decide +kernel)
      by_cases q60 : x = 3
      · subst q60
        refine lv_tableIn (tgt := 143) hx hb dX11_count_48 (by decide +kernel) (by decide +kernel) (by rfl) (by decide) ?_
        refine lv_aload_n hx hb dX11_count_143 rfl (lv_at hl 0 rfl) ?_
        refine va_get (D := D) (ci := 11) (v := .ref (r 1)) (C := RX11) (T := TX11) (N := 17) hx hb hg inC11 hown hK hP 0 rfl rfl 0 (by decide) (hg _ wt2_186) (fun _ h9 => h9) rfl dX11_count_144 ?_
        refine va_get (D := D) (ci := 7) (v := .int (f 44)) (C := RX7) (T := TX7) (N := 20) hx hb hg inC7 hown hK hP 1 rfl rfl 12 (by decide) (hg _ wt1_137) (fun _ h9 => h9) rfl dX11_count_147 ?_
        refine k_top (z := 0) h2 ?_
        exact kI_ret (v := 0) hx hb hr hlocks rfl hK hS dX11_count_150 () hP hD (by decide +kernel)
      by_cases q61 : x = 4
      · subst q61
        refine lv_tableIn (tgt := 151) hx hb dX11_count_48 (by decide +kernel) (by decide +kernel) (by rfl) (by decide) ?_
        refine lv_aload_n hx hb dX11_count_151 rfl (lv_at hl 0 rfl) ?_
        refine va_get (D := D) (ci := 11) (v := .ref (r 1)) (C := RX11) (T := TX11) (N := 17) hx hb hg inC11 hown hK hP 0 rfl rfl 0 (by decide) (hg _ wt2_186) (fun _ h9 => h9) rfl dX11_count_152 ?_
        refine va_get (D := D) (ci := 7) (v := .int (f 49)) (C := RX7) (T := TX7) (N := 20) hx hb hg inC7 hown hK hP 1 rfl rfl 17 (by decide) (hg _ wt1_150) (fun _ h9 => h9) rfl dX11_count_155 ?_
        refine k_top (z := 0) h3 ?_
        exact kI_ret (v := 0) hx hb hr hlocks rfl hK hS dX11_count_158 () hP hD (by decide +kernel)
      by_cases q62 : x = 5
      · subst q62
        refine lv_tableIn (tgt := 159) hx hb dX11_count_48 (by decide +kernel) (by decide +kernel) (by rfl) (by decide) ?_
        refine lv_aload_n hx hb dX11_count_159 rfl (lv_at hl 0 rfl) ?_
        refine va_get (D := D) (ci := 11) (v := .ref (r 22)) (C := RX11) (T := TX11) (N := 17) hx hb hg inC11 hown hK hP 0 rfl rfl 1 (by decide) (hg _ wt2_187) (fun _ h9 => h9) rfl dX11_count_160 ?_
        refine va_get (D := D) (ci := 2) (v := .int (f 704)) (C := RX2) (T := TX2) (N := 3) hx hb hg inC2 hown hK hP 22 rfl rfl 0 (by decide) (hg _ wt1_206) (fun _ h9 => h9) rfl dX11_count_163 ?_
        refine k_top (z := 0) h4 ?_
        exact kI_ret (v := 0) hx hb hr hlocks rfl hK hS dX11_count_166 () hP hD (by decide +kernel)
      by_cases q63 : x = 6
      · subst q63
        refine lv_tableIn (tgt := 167) hx hb dX11_count_48 (by decide +kernel) (by decide +kernel) (by rfl) (by decide) ?_
        refine lv_aload_n hx hb dX11_count_167 rfl (lv_at hl 0 rfl) ?_
        refine va_get (D := D) (ci := 11) (v := .int (f 12)) (C := RX11) (T := TX11) (N := 17) hx hb hg inC11 hown hK hP 0 rfl rfl 12 (by decide) (hg _ wt2_198) (fun _ h9 => h9) rfl dX11_count_168 ?_
        refine k_top (z := 0) h5 ?_
        exact kI_ret (v := 0) hx hb hr hlocks rfl hK hS dX11_count_171 () hP hD (by decide +kernel)
      by_cases q64 : x = 12
      · subst q64
        refine lv_tableIn (tgt := 172) hx hb dX11_count_48 (by decide +kernel) (by decide +kernel) (by rfl) (by decide) ?_
        refine lv_aload_n hx hb dX11_count_172 rfl (lv_at hl 0 rfl) ?_
        refine va_get (D := D) (ci := 11) (v := .ref (r 1)) (C := RX11) (T := TX11) (N := 17) hx hb hg inC11 hown hK hP 0 rfl rfl 0 (by decide) (hg _ wt2_186) (fun _ h9 => h9) rfl dX11_count_173 ?_
        refine va_get (D := D) (ci := 7) (v := .int (f 50)) (C := RX7) (T := TX7) (N := 20) hx hb hg inC7 hown hK hP 1 rfl rfl 18 (by decide) (hg _ wt1_153) (fun _ h9 => h9) rfl dX11_count_176 ?_
        refine k_top (z := (-1)) h6 ?_
        exact kI_ret (v := (-1)) hx hb hr hlocks rfl hK hS dX11_count_179 () hP hD (by decide +kernel)
      refine lv_tableOut (tgt := 180) hx hb dX11_count_48 (by have gq52 := lv_neT q52 (a := 0) (by decide +kernel); have gq53 := lv_neT q53 (a := 1) (by decide +kernel); have gq59 := lv_neT q59 (a := 2) (by decide +kernel); have gq60 := lv_neT q60 (a := 3) (by decide +kernel); have gq61 := lv_neT q61 (a := 4) (by decide +kernel); have gq62 := lv_neT q62 (a := 5) (by decide +kernel); have gq63 := lv_neT q63 (a := 6) (by decide +kernel); have gq1 := lv_neT q1 (a := 7) (by decide +kernel); have gq4 := lv_neT q4 (a := 8) (by decide +kernel); have gq7 := lv_neT q7 (a := 9) (by decide +kernel); have gq10 := lv_neT q10 (a := 10) (by decide +kernel); have gq13 := lv_neT q13 (a := 11) (by decide +kernel); have gq64 := lv_neT q64 (a := 12) (by decide +kernel); omega) (by decide) ?_
      refine lv_iconst (v := (-1)) hx hb dX11_count_180 (by decide) ?_
      exact kI_ret (v := (-1)) hx hb hr hlocks rfl hK hS dX11_count_181 () hP hD (by simp [mCount, q1, q4, q7, q10, q13, q16, q21, q26, q31, q52, q53, q59, q60, q61, q62, q63, q1, q4, q7, q10, q13, q64])
  · refine lv_iload_n hx hb dX11_count_6 rfl (lv_at hl 1 rfl) ?_
    refine lv_bipush (v := 11) hx hb dX11_count_7 (by decide) ?_
    refine lv_icmp_gt (tgt := 22) hx hb dX11_count_9 (by decide) (fun c65 => ?_) (fun c65 => absurd (xc_a q1 q4 q7 q10 q13 c36) c65)
    refine lv_iload_n hx hb dX11_count_22 rfl (lv_at hl 1 rfl) ?_
    refine lv_bipush (v := 13) hx hb dX11_count_23 (by decide) ?_
    refine lv_icmp_lt (tgt := 47) hx hb dX11_count_25 (by decide) (fun c66 => ?_) (fun c66 => ?_)
    · refine lv_iload_n hx hb dX11_count_47 rfl (lv_at hl 1 rfl) ?_
      by_cases q67 : x = 0
      · subst q67
        refine lv_tableIn (tgt := 116) hx hb dX11_count_48 (by decide +kernel) (by decide +kernel) (by rfl) (by decide) ?_
        refine lv_aload_n hx hb dX11_count_116 rfl (lv_at hl 0 rfl) ?_
        refine va_get (D := D) (ci := 11) (v := .ref (r 1)) (C := RX11) (T := TX11) (N := 17) hx hb hg inC11 hown hK hP 0 rfl rfl 0 (by decide) (hg _ wt2_186) (fun _ h9 => h9) rfl dX11_count_117 ?_
        refine va_get (D := D) (ci := 7) (v := .int (f 32)) (C := RX7) (T := TX7) (N := 20) hx hb hg inC7 hown hK hP 1 rfl rfl 0 (by decide) (hg _ wt1_85) (fun _ h9 => h9) rfl dX11_count_120 ?_
        refine k_top (z := 0) h0 ?_
        exact kI_ret (v := 0) hx hb hr hlocks rfl hK hS dX11_count_123 () hP hD (by decide +kernel)
      by_cases q68 : x = 1
      · subst q68
        refine lv_tableIn (tgt := 124) hx hb dX11_count_48 (by decide +kernel) (by decide +kernel) (by rfl) (by decide) ?_
        refine lv_aload_n hx hb dX11_count_124 rfl (lv_at hl 0 rfl) ?_
        refine va_get (D := D) (ci := 11) (v := .ref (r 1)) (C := RX11) (T := TX11) (N := 17) hx hb hg inC11 hown hK hP 0 rfl rfl 0 (by decide) (hg _ wt2_186) (fun _ h9 => h9) rfl dX11_count_125 ?_
        refine kI.callW (As := []) (rest := []) ⟨hx, hb, hml, hown, hg⟩ (x_upMask_now l r f a g h0 ) (cwV 0 hg (kgV wt4_164 wt3_44 wt3_45 wt1_2 wt3_46) rfl rfl rfl (by decide +kernel) ⟨by decide, by decide⟩) hK hP hD hS hA 1 7 rfl rfl rfl hl.1 rfl (Nat.le_of_ble_eq_true rfl) dX11_count_128 ⟨by decide, by decide⟩ (fun v71 u70 H locs hw69 hP hD hS => ?_)
        have hP : va_P D vwCl (xW K r f a g) H := hP
        have hD : va_D A (xW K r f a g) := hD
        refine k_top (z := 0) (hw69) ?_
        refine kN.callS (As := [.int 0]) (rest := []) ⟨hx, hb, hml, hown, hg⟩ (x_bitCount0 l ) (va_cwS 1 hg (kgS wt5_42 wt4_99 wt1_21 wt4_100) rfl rfl rfl (by decide +kernel) ⟨by decide, by decide⟩) hP hS rfl hl.1 rfl (Nat.le_of_ble_eq_true rfl) dX11_count_131 ⟨by decide, by decide⟩ (fun v73 H locs hw72 hP hS => ?_)
        refine k_top (z := 0) (hw72) ?_
        exact kI_ret (v := 0) hx hb hr hlocks rfl hK hS dX11_count_134 () hP hD (by decide +kernel)
      by_cases q74 : x = 2
      · subst q74
        refine lv_tableIn (tgt := 135) hx hb dX11_count_48 (by decide +kernel) (by decide +kernel) (by rfl) (by decide) ?_
        refine lv_aload_n hx hb dX11_count_135 rfl (lv_at hl 0 rfl) ?_
        refine va_get (D := D) (ci := 11) (v := .ref (r 1)) (C := RX11) (T := TX11) (N := 17) hx hb hg inC11 hown hK hP 0 rfl rfl 0 (by decide) (hg _ wt2_186) (fun _ h9 => h9) rfl dX11_count_136 ?_
        refine va_get (D := D) (ci := 7) (v := .int (f 38)) (C := RX7) (T := TX7) (N := 20) hx hb hg inC7 hown hK hP 1 rfl rfl 6 (by decide) (hg _ wt1_109) (fun _ h9 => h9) rfl dX11_count_139 ?_
        refine k_top (z := 0) h1 ?_
        exact kI_ret (v := 0) hx hb hr hlocks rfl hK hS dX11_count_142 () hP hD (by decide +kernel)
      by_cases q75 : x = 3
      · subst q75
        refine lv_tableIn (tgt := 143) hx hb dX11_count_48 (by decide +kernel) (by decide +kernel) (by rfl) (by decide) ?_
        refine lv_aload_n hx hb dX11_count_143 rfl (lv_at hl 0 rfl) ?_
        refine va_get (D := D) (ci := 11) (v := .ref (r 1)) (C := RX11) (T := TX11) (N := 17) hx hb hg inC11 hown hK hP 0 rfl rfl 0 (by decide) (hg _ wt2_186) (fun _ h9 => h9) rfl dX11_count_144 ?_
        refine va_get (D := D) (ci := 7) (v := .int (f 44)) (C := RX7) (T := TX7) (N := 20) hx hb hg inC7 hown hK hP 1 rfl rfl 12 (by decide) (hg _ wt1_137) (fun _ h9 => h9) rfl dX11_count_147 ?_
        refine k_top (z := 0) h2 ?_
        exact kI_ret (v := 0) hx hb hr hlocks rfl hK hS dX11_count_150 () hP hD (by decide +kernel)
      by_cases q76 : x = 4
      · subst q76
        refine lv_tableIn (tgt := 151) hx hb dX11_count_48 (by decide +kernel) (by decide +kernel) (by rfl) (by decide) ?_
        refine lv_aload_n hx hb dX11_count_151 rfl (lv_at hl 0 rfl) ?_
        refine va_get (D := D) (ci := 11) (v := .ref (r 1)) (C := RX11) (T := TX11) (N := 17) hx hb hg inC11 hown hK hP 0 rfl rfl 0 (by decide) (hg _ wt2_186) (fun _ h9 => h9) rfl dX11_count_152 ?_
        refine va_get (D := D) (ci := 7) (v := .int (f 49)) (C := RX7) (T := TX7) (N := 20) hx hb hg inC7 hown hK hP 1 rfl rfl 17 (by decide) (hg _ wt1_150) (fun _ h9 => h9) rfl dX11_count_155 ?_
        refine k_top (z := 0) h3 ?_
        exact kI_ret (v := 0) hx hb hr hlocks rfl hK hS dX11_count_158 () hP hD (by decide +kernel)
      by_cases q77 : x = 5
      · subst q77
        refine lv_tableIn (tgt := 159) hx hb dX11_count_48 (by decide +kernel) (by decide +kernel) (by rfl) (by decide) ?_
        refine lv_aload_n hx hb dX11_count_159 rfl (lv_at hl 0 rfl) ?_
        refine va_get (D := D) (ci := 11) (v := .ref (r 22)) (C := RX11) (T := TX11) (N := 17) hx hb hg inC11 hown hK hP 0 rfl rfl 1 (by decide) (hg _ wt2_187) (fun _ h9 => h9) rfl dX11_count_160 ?_
        refine va_get (D := D) (ci := 2) (v := .int (f 704)) (C := RX2) (T := TX2) (N := 3) hx hb hg inC2 hown hK hP 22 rfl rfl 0 (by decide) (hg _ wt1_206) (fun _ h9 => h9) rfl dX11_count_163 ?_
        refine k_top (z := 0) h4 ?_
        exact kI_ret (v := 0) hx hb hr hlocks rfl hK hS dX11_count_166 () hP hD (by decide +kernel)
      by_cases q78 : x = 6
      · subst q78
        refine lv_tableIn (tgt := 167) hx hb dX11_count_48 (by decide +kernel) (by decide +kernel) (by rfl) (by decide) ?_
        refine lv_aload_n hx hb dX11_count_167 rfl (lv_at hl 0 rfl) ?_
        refine va_get (D := D) (ci := 11) (v := .int (f 12)) (C := RX11) (T := TX11) (N := 17) hx hb hg inC11 hown hK hP 0 rfl rfl 12 (by decide) (hg _ wt2_198) (fun _ h9 => h9) rfl dX11_count_168 ?_
        refine k_top (z := 0) h5 ?_
        exact kI_ret (v := 0) hx hb hr hlocks rfl hK hS dX11_count_171 () hP hD (by decide +kernel)
      by_cases q79 : x = 12
      · subst q79
        refine lv_tableIn (tgt := 172) hx hb dX11_count_48 (by decide +kernel) (by decide +kernel) (by rfl) (by decide) ?_
        refine lv_aload_n hx hb dX11_count_172 rfl (lv_at hl 0 rfl) ?_
        refine va_get (D := D) (ci := 11) (v := .ref (r 1)) (C := RX11) (T := TX11) (N := 17) hx hb hg inC11 hown hK hP 0 rfl rfl 0 (by decide) (hg _ wt2_186) (fun _ h9 => h9) rfl dX11_count_173 ?_
        refine va_get (D := D) (ci := 7) (v := .int (f 50)) (C := RX7) (T := TX7) (N := 20) hx hb hg inC7 hown hK hP 1 rfl rfl 18 (by decide) (hg _ wt1_153) (fun _ h9 => h9) rfl dX11_count_176 ?_
        refine k_top (z := (-1)) h6 ?_
        exact kI_ret (v := (-1)) hx hb hr hlocks rfl hK hS dX11_count_179 () hP hD (by decide +kernel)
      refine lv_tableOut (tgt := 180) hx hb dX11_count_48 (by have gq67 := lv_neT q67 (a := 0) (by decide +kernel); have gq68 := lv_neT q68 (a := 1) (by decide +kernel); have gq74 := lv_neT q74 (a := 2) (by decide +kernel); have gq75 := lv_neT q75 (a := 3) (by decide +kernel); have gq76 := lv_neT q76 (a := 4) (by decide +kernel); have gq77 := lv_neT q77 (a := 5) (by decide +kernel); have gq78 := lv_neT q78 (a := 6) (by decide +kernel); have gq1 := lv_neT q1 (a := 7) (by decide +kernel); have gq4 := lv_neT q4 (a := 8) (by decide +kernel); have gq7 := lv_neT q7 (a := 9) (by decide +kernel); have gq10 := lv_neT q10 (a := 10) (by decide +kernel); have gq13 := lv_neT q13 (a := 11) (by decide +kernel); have gq79 := lv_neT q79 (a := 12) (by decide +kernel); omega) (by decide) ?_
      refine lv_iconst (v := (-1)) hx hb dX11_count_180 (by decide) ?_
      exact kI_ret (v := (-1)) hx hb hr hlocks rfl hK hS dX11_count_181 () hP hD (by simp [mCount, q1, q4, q7, q10, q13, q16, q21, q26, q31, q67, q68, q74, q75, q76, q77, q78, q1, q4, q7, q10, q13, q79])
    · refine lv_iload_n hx hb dX11_count_28 rfl (lv_at hl 1 rfl) ?_
      refine lv_bipush (v := 16) hx hb dX11_count_29 (by decide) ?_
      refine lv_icmp_gt (tgt := 47) hx hb dX11_count_31 (by decide) (fun c80 => ?_) (fun c80 => absurd (xc_b q16 q21 q26 q31 c66) c80)
      refine lv_iload_n hx hb dX11_count_47 rfl (lv_at hl 1 rfl) ?_
      by_cases q81 : x = 0
      · subst q81
        refine lv_tableIn (tgt := 116) hx hb dX11_count_48 (by decide +kernel) (by decide +kernel) (by rfl) (by decide) ?_
        refine lv_aload_n hx hb dX11_count_116 rfl (lv_at hl 0 rfl) ?_
        refine va_get (D := D) (ci := 11) (v := .ref (r 1)) (C := RX11) (T := TX11) (N := 17) hx hb hg inC11 hown hK hP 0 rfl rfl 0 (by decide) (hg _ wt2_186) (fun _ h9 => h9) rfl dX11_count_117 ?_
        refine va_get (D := D) (ci := 7) (v := .int (f 32)) (C := RX7) (T := TX7) (N := 20) hx hb hg inC7 hown hK hP 1 rfl rfl 0 (by decide) (hg _ wt1_85) (fun _ h9 => h9) rfl dX11_count_120 ?_
        refine k_top (z := 0) h0 ?_
        exact kI_ret (v := 0) hx hb hr hlocks rfl hK hS dX11_count_123 () hP hD (by decide +kernel)
      by_cases q82 : x = 1
      · subst q82
        refine lv_tableIn (tgt := 124) hx hb dX11_count_48 (by decide +kernel) (by decide +kernel) (by rfl) (by decide) ?_
        refine lv_aload_n hx hb dX11_count_124 rfl (lv_at hl 0 rfl) ?_
        refine va_get (D := D) (ci := 11) (v := .ref (r 1)) (C := RX11) (T := TX11) (N := 17) hx hb hg inC11 hown hK hP 0 rfl rfl 0 (by decide) (hg _ wt2_186) (fun _ h9 => h9) rfl dX11_count_125 ?_
        refine kI.callW (As := []) (rest := []) ⟨hx, hb, hml, hown, hg⟩ (x_upMask_now l r f a g h0 ) (cwV 0 hg (kgV wt4_164 wt3_44 wt3_45 wt1_2 wt3_46) rfl rfl rfl (by decide +kernel) ⟨by decide, by decide⟩) hK hP hD hS hA 1 7 rfl rfl rfl hl.1 rfl (Nat.le_of_ble_eq_true rfl) dX11_count_128 ⟨by decide, by decide⟩ (fun v85 u84 H locs hw83 hP hD hS => ?_)
        have hP : va_P D vwCl (xW K r f a g) H := hP
        have hD : va_D A (xW K r f a g) := hD
        refine k_top (z := 0) (hw83) ?_
        refine kN.callS (As := [.int 0]) (rest := []) ⟨hx, hb, hml, hown, hg⟩ (x_bitCount0 l ) (va_cwS 1 hg (kgS wt5_42 wt4_99 wt1_21 wt4_100) rfl rfl rfl (by decide +kernel) ⟨by decide, by decide⟩) hP hS rfl hl.1 rfl (Nat.le_of_ble_eq_true rfl) dX11_count_131 ⟨by decide, by decide⟩ (fun v87 H locs hw86 hP hS => ?_)
        refine k_top (z := 0) (hw86) ?_
        exact kI_ret (v := 0) hx hb hr hlocks rfl hK hS dX11_count_134 () hP hD (by decide +kernel)
      by_cases q88 : x = 2
      · subst q88
        refine lv_tableIn (tgt := 135) hx hb dX11_count_48 (by decide +kernel) (by decide +kernel) (by rfl) (by decide) ?_
        refine lv_aload_n hx hb dX11_count_135 rfl (lv_at hl 0 rfl) ?_
        refine va_get (D := D) (ci := 11) (v := .ref (r 1)) (C := RX11) (T := TX11) (N := 17) hx hb hg inC11 hown hK hP 0 rfl rfl 0 (by decide) (hg _ wt2_186) (fun _ h9 => h9) rfl dX11_count_136 ?_
        refine va_get (D := D) (ci := 7) (v := .int (f 38)) (C := RX7) (T := TX7) (N := 20) hx hb hg inC7 hown hK hP 1 rfl rfl 6 (by decide) (hg _ wt1_109) (fun _ h9 => h9) rfl dX11_count_139 ?_
        refine k_top (z := 0) h1 ?_
        exact kI_ret (v := 0) hx hb hr hlocks rfl hK hS dX11_count_142 () hP hD (by decide +kernel)
      by_cases q89 : x = 3
      · subst q89
        refine lv_tableIn (tgt := 143) hx hb dX11_count_48 (by decide +kernel) (by decide +kernel) (by rfl) (by decide) ?_
        refine lv_aload_n hx hb dX11_count_143 rfl (lv_at hl 0 rfl) ?_
        refine va_get (D := D) (ci := 11) (v := .ref (r 1)) (C := RX11) (T := TX11) (N := 17) hx hb hg inC11 hown hK hP 0 rfl rfl 0 (by decide) (hg _ wt2_186) (fun _ h9 => h9) rfl dX11_count_144 ?_
        refine va_get (D := D) (ci := 7) (v := .int (f 44)) (C := RX7) (T := TX7) (N := 20) hx hb hg inC7 hown hK hP 1 rfl rfl 12 (by decide) (hg _ wt1_137) (fun _ h9 => h9) rfl dX11_count_147 ?_
        refine k_top (z := 0) h2 ?_
        exact kI_ret (v := 0) hx hb hr hlocks rfl hK hS dX11_count_150 () hP hD (by decide +kernel)
      by_cases q90 : x = 4
      · subst q90
        refine lv_tableIn (tgt := 151) hx hb dX11_count_48 (by decide +kernel) (by decide +kernel) (by rfl) (by decide) ?_
        refine lv_aload_n hx hb dX11_count_151 rfl (lv_at hl 0 rfl) ?_
        refine va_get (D := D) (ci := 11) (v := .ref (r 1)) (C := RX11) (T := TX11) (N := 17) hx hb hg inC11 hown hK hP 0 rfl rfl 0 (by decide) (hg _ wt2_186) (fun _ h9 => h9) rfl dX11_count_152 ?_
        refine va_get (D := D) (ci := 7) (v := .int (f 49)) (C := RX7) (T := TX7) (N := 20) hx hb hg inC7 hown hK hP 1 rfl rfl 17 (by decide) (hg _ wt1_150) (fun _ h9 => h9) rfl dX11_count_155 ?_
        refine k_top (z := 0) h3 ?_
        exact kI_ret (v := 0) hx hb hr hlocks rfl hK hS dX11_count_158 () hP hD (by decide +kernel)
      by_cases q91 : x = 5
      · subst q91
        refine lv_tableIn (tgt := 159) hx hb dX11_count_48 (by decide +kernel) (by decide +kernel) (by rfl) (by decide) ?_
        refine lv_aload_n hx hb dX11_count_159 rfl (lv_at hl 0 rfl) ?_
        refine va_get (D := D) (ci := 11) (v := .ref (r 22)) (C := RX11) (T := TX11) (N := 17) hx hb hg inC11 hown hK hP 0 rfl rfl 1 (by decide) (hg _ wt2_187) (fun _ h9 => h9) rfl dX11_count_160 ?_
        refine va_get (D := D) (ci := 2) (v := .int (f 704)) (C := RX2) (T := TX2) (N := 3) hx hb hg inC2 hown hK hP 22 rfl rfl 0 (by decide) (hg _ wt1_206) (fun _ h9 => h9) rfl dX11_count_163 ?_
        refine k_top (z := 0) h4 ?_
        exact kI_ret (v := 0) hx hb hr hlocks rfl hK hS dX11_count_166 () hP hD (by decide +kernel)
      by_cases q92 : x = 6
      · subst q92
        refine lv_tableIn (tgt := 167) hx hb dX11_count_48 (by decide +kernel) (by decide +kernel) (by rfl) (by decide) ?_
        refine lv_aload_n hx hb dX11_count_167 rfl (lv_at hl 0 rfl) ?_
        refine va_get (D := D) (ci := 11) (v := .int (f 12)) (C := RX11) (T := TX11) (N := 17) hx hb hg inC11 hown hK hP 0 rfl rfl 12 (by decide) (hg _ wt2_198) (fun _ h9 => h9) rfl dX11_count_168 ?_
        refine k_top (z := 0) h5 ?_
        exact kI_ret (v := 0) hx hb hr hlocks rfl hK hS dX11_count_171 () hP hD (by decide +kernel)
      by_cases q93 : x = 12
      · subst q93
        refine lv_tableIn (tgt := 172) hx hb dX11_count_48 (by decide +kernel) (by decide +kernel) (by rfl) (by decide) ?_
        refine lv_aload_n hx hb dX11_count_172 rfl (lv_at hl 0 rfl) ?_
        refine va_get (D := D) (ci := 11) (v := .ref (r 1)) (C := RX11) (T := TX11) (N := 17) hx hb hg inC11 hown hK hP 0 rfl rfl 0 (by decide) (hg _ wt2_186) (fun _ h9 => h9) rfl dX11_count_173 ?_
        refine va_get (D := D) (ci := 7) (v := .int (f 50)) (C := RX7) (T := TX7) (N := 20) hx hb hg inC7 hown hK hP 1 rfl rfl 18 (by decide) (hg _ wt1_153) (fun _ h9 => h9) rfl dX11_count_176 ?_
        refine k_top (z := (-1)) h6 ?_
        exact kI_ret (v := (-1)) hx hb hr hlocks rfl hK hS dX11_count_179 () hP hD (by decide +kernel)
      refine lv_tableOut (tgt := 180) hx hb dX11_count_48 (by have gq81 := lv_neT q81 (a := 0) (by decide +kernel); have gq82 := lv_neT q82 (a := 1) (by decide +kernel); have gq88 := lv_neT q88 (a := 2) (by decide +kernel); have gq89 := lv_neT q89 (a := 3) (by decide +kernel); have gq90 := lv_neT q90 (a := 4) (by decide +kernel); have gq91 := lv_neT q91 (a := 5) (by decide +kernel); have gq92 := lv_neT q92 (a := 6) (by decide +kernel); have gq1 := lv_neT q1 (a := 7) (by decide +kernel); have gq4 := lv_neT q4 (a := 8) (by decide +kernel); have gq7 := lv_neT q7 (a := 9) (by decide +kernel); have gq10 := lv_neT q10 (a := 10) (by decide +kernel); have gq13 := lv_neT q13 (a := 11) (by decide +kernel); have gq93 := lv_neT q93 (a := 12) (by decide +kernel); omega) (by decide) ?_
      refine lv_iconst (v := (-1)) hx hb dX11_count_180 (by decide) ?_
      exact kI_ret (v := (-1)) hx hb hr hlocks rfl hK hS dX11_count_181 () hP hD (by simp [mCount, q1, q4, q7, q10, q13, q16, q21, q26, q31, q81, q82, q88, q89, q90, q91, q92, q1, q4, q7, q10, q13, q93])
