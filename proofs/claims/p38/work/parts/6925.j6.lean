section XD
variable {o q : Nat} {f f' : Nat → Int32} {a a' : Nat → Nat → Int32} {k : Nat → Int32} {b pp n m N : Nat} {v p y : Int32}
theorem sV_pl (h : sV o q f a k) (f1 : f' o = f o) (f2 : f' (o + 6) = f (o + 6)) (f3 : f' (o + 12) = f (o + 12)) (f4 : f' (o + 17) = f (o + 17)) (f5 : f' (o + 18) = f (o + 18)) (hr : ∀ j, j < 13 → ¬ j = 8 → a' (q + j) = a (q + j)) (e : a' (q + 8) = upd (a (q + 8)) b v) (hb : b < 6) : sV o q f' a' (upd k (16 + b) v) := by
  refine sV_mk h f1 f2 f3 f4 f5 (fun i hi => pk_un (by omega)) (fun j hj n4 n7 n8 n9 => hr j hj n8) (fun i hi => ?_) (fun i hi => ?_) (fun i hi hn => ?_) ?_ (fun i hi => by rw [hr 9 (by decide) (by decide)])
  · rw [hr 4 (by decide) (by decide), pk_un (by omega)]; exact sv_left h hi
  · rw [hr 7 (by decide) (by decide), pk_un (by omega)]; exact sv_tired h hi
  · rw [e]
    by_cases c : i = b
    · rw [c, pk_us, pk_us]
    · rw [pk_un c, pk_un (by omega)]; exact sv_place h hi hn
  · rw [hr 9 (by decide) (by decide), pk_un (by omega)]; exact sv_hour h
theorem sV_lf (h : sV o q f a k) (f1 : f' o = f o) (f2 : f' (o + 6) = f (o + 6)) (f3 : f' (o + 12) = f (o + 12)) (f4 : f' (o + 17) = f (o + 17)) (f5 : f' (o + 18) = f (o + 18)) (hr : ∀ j, j < 13 → ¬ j = 4 → a' (q + j) = a (q + j)) (e : a' (q + 4) = upd (a (q + 4)) pp v) (hb : pp < 10) : sV o q f' a' (upd k (0 + pp) v) := by
  refine sV_mk h f1 f2 f3 f4 f5 (fun i hi => pk_un (by omega)) (fun j hj n4 n7 n8 n9 => hr j hj n4) (fun i hi => ?_) (fun i hi => ?_) (fun i hi hn => ?_) ?_ (fun i hi => by rw [hr 9 (by decide) (by decide)])
  · rw [e]
    by_cases c : i = pp
    · rw [c, pk_us, pk_us]
    · rw [pk_un c, pk_un (by omega)]; exact sv_left h hi
  · rw [hr 7 (by decide) (by decide), pk_un (by omega)]; exact sv_tired h hi
  · rw [hr 8 (by decide) (by decide), pk_un (by omega)]; exact sv_place h hi hn
  · rw [hr 9 (by decide) (by decide), pk_un (by omega)]; exact sv_hour h
theorem nIm (n : Nat) (h : n < 100) : ¬ nI n = -1 := by
  intro e
  have w := congrArg Int32.toInt e
  rw [kn_to (by omega), show (-1 : Int32).toInt = -1 from by decide +kernel] at w
  omega
theorem oth_mono (k : Nat → Int32) (x p : Int32) (n : Nat) : ∀ d, oth k x p n ≤ oth k x p (n + d)
  | 0 => Nat.le_refl _
  | d + 1 => by
    have w := oth_mono k x p n d
    show _ ≤ oth k x p (n + d) + _
    omega
theorem oth_pos (hm : m < N) (h6 : N ≤ 6) (h : k (16 + m) = p) : 0 < oth k (-1) p N := by
  have w := oth_mono k (-1) p (m + 1) (N - (m + 1))
  rw [show m + 1 + (N - (m + 1)) = N by omega] at w
  have w2 : oth k (-1) p (m + 1) = oth k (-1) p m + 1 := by
    show oth k (-1) p m + (if ¬ nI m = -1 ∧ k (16 + m) = p then 1 else 0) = _
    rw [if_pos ⟨nIm m (by omega), h⟩]
  omega
theorem oth_zs (h : oth k (-1) p n = 0) (h2 : ¬ k (16 + n) = p) : oth k (-1) p (n + 1) = 0 := by
  show oth k (-1) p n + (if ¬ nI n = -1 ∧ k (16 + n) = p then 1 else 0) = 0
  rw [if_neg (fun z => h2 z.2), h]
theorem tcB_1 (h : k (0 + n) < k (23 + n)) : tcB k n = true := by
  unfold tcB
  rw [decide_eq_true (Int32.lt_iff_toInt_lt.mp h)]; rfl
theorem tcB_2 (h : 0 < oth k (-1) (nI n) (kBn k)) : tcB k n = true := by
  unfold tcB
  rw [decide_eq_true (show 0 < oth k (-1) (nI n) (k 103).toInt.toNat from h), Bool.or_true]
theorem tcB_n (h : ¬ k (0 + n) < k (23 + n)) (h2 : oth k (-1) (nI n) (kBn k) = 0) : ¬ tcB k n = true := by
  unfold tcB
  rw [decide_eq_false (fun w => h (Int32.lt_iff_toInt_lt.mpr w)), decide_eq_false (show ¬ 0 < oth k (-1) (nI n) (k 103).toInt.toNat from fun w => by have e : oth k (-1) (nI n) (k 103).toInt.toNat = 0 := h2; omega)]
  exact Bool.false_ne_true
theorem th_up (h : ¬ k (0 + y.toNatClampNeg) = 0) : ∀ n, ¬ thB k y n = true
  | 0 => by
    show ¬ upB k y.toNatClampNeg = true
    unfold upB
    rw [decide_eq_false h]; exact Bool.false_ne_true
  | n + 1 => by
    show ¬ (thB k y n && _) = true
    rw [Bool.eq_false_iff.mpr (th_up h n)]; exact Bool.false_ne_true
theorem th_all (h : k (0 + y.toNatClampNeg) = 0) : ∀ n, (∀ q, q < n → ¬ ((k (33 + q) >>> (y &&& 31)) &&& 1 = 1 ∧ tcB k q = true)) → thB k y n = true
  | 0, _ => by
    show upB k y.toNatClampNeg = true
    unfold upB
    exact decide_eq_true h
  | n + 1, g => by
    show (thB k y n && !(decide _ && tcB k n)) = true
    rw [th_all h n (fun q hq => g q (by omega))]
    have w := g n (by omega)
    by_cases c : (k (33 + n) >>> (y &&& 31)) &&& 1 = 1
    · rw [decide_eq_true c, Bool.eq_false_iff.mpr (fun t => w ⟨c, t⟩)]; rfl
    · rw [decide_eq_false c]; rfl
theorem th_ex {q : Nat} (h1 : (k (33 + q) >>> (y &&& 31)) &&& 1 = 1) (h2 : tcB k q = true) : ∀ n, q < n → ¬ thB k y n = true
  | 0, h => by omega
  | n + 1, h => by
    show ¬ (thB k y n && !(decide _ && tcB k n)) = true
    by_cases c : q = n
    · rw [← c, decide_eq_true h1, h2, Bool.true_and, Bool.not_true, Bool.and_false]; exact Bool.false_ne_true
    · rw [Bool.eq_false_iff.mpr (th_ex h1 h2 n (by omega))]; exact Bool.false_ne_true
end XD
set_option maxHeartbeats 4000000 in
set_option maxRecDepth 100000 in
theorem z_sendBuilder  (l : Launch) {D : va_G} {K : Nat → ClassId} (r : Nat → Nat) (f : Nat → Int32) (a : Nat → Nat → Int32) (g : xG) (tx tt : va_W) (hT : ∀ c ∈ tt, c ∈ tx) (hI : xI f a) (hG : gOK K g.2 tt) (x : Int32) (y : Int32)  (k : Nat → Int32) (hVw : sV 32 2 f a k) (hkk : kK k) (DD : Nat → tE) (hL : lC K tt (g.2 15) k DD) (P : pS) (hp0 : xPs (f 704) (f 705) (a 23) P (kBn k)) : kIG l yX0_sendBuilder (Cond.code yX0_sendBuilder cX0_sendBuilder 3 (some .int) :: kG) (rmD 4 0 0) D K [.ref (r 24), .int x, .int y] (xX K r f a g tx) (fun v (u : xS) => kb (-2147483648) v 2147483647 ∧ xI u.1 u.2.1 ∧ gOK K u.2.2.2 tt ∧ xEk ([704, 705], [10, 23], []) f a g u.1 u.2.1 u.2.2 ∧ xDd 32 2 v u.1 u.2.1 (sndF DD k P x y) (kBn k)) (fun u => xX K r u.1 u.2.1 u.2.2 tx) 0 0 := by
  refine kIE.of (cc := cX0_sendBuilder) (maxL := 3) (ret := (some .int)) (by decide) rfl (Nat.le_of_ble_eq_true rfl) ?_
  intro p e s m below meth c A hx hb hr hml hown hts hlocks hnm hK hP hD hS hA hV ls hl
  have hE : xEk ([704, 705], [10, 23], []) f a g f a g := xEk_rf
  have hg : ∀ w ∈ kG, w.before _ s = true := fun w h => hts w (List.mem_cons_of_mem _ h)
  have hown : s.vm.findClass RX0 = some m.cls := hown
  have hl : lv_has ls 3 [(0, .ref (r 24)), (1, .int x), (2, .int y)] := hl
  have hk0 : sV 32 2 f a k := hVw
  have hk1 := hp0
  refine lv_aload_n hx hb dX0_sendBuilder_0 rfl (lv_at hl 0 rfl) ?_
  refine va_get (D := D) (ci := 0) (v := .ref (r 1)) (C := RX0) (T := TX0) (N := 2) hx hb hg inC0 hown hK hP 24 rfl rfl 0 (by decide) (hg _ wt1_222) (fun _ h9 => h9) rfl dX0_sendBuilder_1 ?_
  refine lv_iload_n hx hb dX0_sendBuilder_4 rfl (lv_at hl 1 rfl) ?_
  refine kIG.callW (As := [.int x]) (rest := []) ⟨hx, hb, hml, hown, hg⟩ (z_hasBuilderN l r f a g tx tt hT hI hG x  k hk0 hkk ) (cwV 1 hg (kgV wt4_113 wt3_68 wt3_69 wt1_2 wt3_70) rfl rfl rfl (by decide +kernel) ⟨by decide, by decide⟩) hV hK hP hD hS hA (1) 7 rfl rfl rfl hl.1 rfl (Nat.le_of_ble_eq_true rfl) dX0_sendBuilder_5 ⟨Nat.le_refl _, Nat.le_refl _⟩ (fun v2 u3 H locs hw1 hP hD hS => ?_)
  have hP : va_P D vwCl (xX K r f a g tx) H := hP
  have hD : va_D A (xX K r f a g tx) := hD
  by_cases hh4 : 0 ≤ x.toInt ∧ x.toInt < (k 103).toInt
  · refine k_top (z := 1) (hw1.2.trans (if_pos hh4)) ?_
    have b5 : kb 0 x 5 := ⟨hh4.1, by have w1 := hh4.2; have w2 := (kK_r hkk 103 0 6 (by decide) (by decide)).2; omega⟩
    refine lv_if_eq (tgt := 22) hx hb dX0_sendBuilder_8 (by decide) (fun c6 => ?_) (fun c6 => ?_)
    · exact kb_dj c6 kc_1 kc_0 (by decide)
    · refine lv_aload_n hx hb dX0_sendBuilder_11 rfl (lv_at hl 0 rfl) ?_
      refine va_get (D := D) (ci := 0) (v := .ref (r 1)) (C := RX0) (T := TX0) (N := 2) hx hb hg inC0 hown hK hP 24 rfl rfl 0 (by decide) (hg _ wt1_222) (fun _ h9 => h9) rfl dX0_sendBuilder_12 ?_
      refine lv_iload_n hx hb dX0_sendBuilder_15 rfl (lv_at hl 2 rfl) ?_
      refine kIG.callW (As := [.int y]) (rest := []) ⟨hx, hb, hml, hown, hg⟩ (z_hasPartN l r f a g tx tt hT hI hG y  k hk0 hkk ) (cwV 1 hg (kgV wt4_114 wt3_36 wt3_37 wt1_2 wt3_38) rfl rfl rfl (by decide +kernel) ⟨by decide, by decide⟩) hV hK hP hD hS hA (1) 7 rfl rfl rfl hl.1 rfl (Nat.le_of_ble_eq_true rfl) dX0_sendBuilder_16 ⟨Nat.le_refl _, Nat.le_refl _⟩ (fun v8 u9 H locs hw7 hP hD hS => ?_)
      have hP : va_P D vwCl (xX K r f a g tx) H := hP
      have hD : va_D A (xX K r f a g tx) := hD
      by_cases hh10 : 0 ≤ y.toInt ∧ y.toInt < (k 102).toInt
      · refine k_top (z := 1) (hw7.2.trans (if_pos hh10)) ?_
        have b11 : kb 0 y 9 := ⟨hh10.1, by have w1 := hh10.2; have w2 := (kK_r hkk 102 0 10 (by decide) (by decide)).2; omega⟩
        refine lv_if_ne (tgt := 25) hx hb dX0_sendBuilder_19 (by decide) (fun c12 => ?_) (fun c12 => ?_)
        · refine lv_aload_n hx hb dX0_sendBuilder_25 rfl (lv_at hl 0 rfl) ?_
          refine va_get (D := D) (ci := 0) (v := .ref (r 1)) (C := RX0) (T := TX0) (N := 2) hx hb hg inC0 hown hK hP 24 rfl rfl 0 (by decide) (hg _ wt1_222) (fun _ h9 => h9) rfl dX0_sendBuilder_26 ?_
          refine kIG.callW (As := []) (rest := []) ⟨hx, hb, hml, hown, hg⟩ (z_readyMaskN l r f a g tx tt hT hI hG   k hk0 hkk ) (cwV 0 hg (kgV wt4_115 wt3_40 wt3_41 wt1_2 wt3_42) rfl rfl rfl (by decide +kernel) ⟨by decide, by decide⟩) hV hK hP hD hS hA (1) 7 rfl rfl rfl hl.1 rfl (Nat.le_of_ble_eq_true rfl) dX0_sendBuilder_29 ⟨Nat.le_refl _, Nat.le_refl _⟩ (fun v14 u15 H locs hw13 hP hD hS => ?_)
          have hP : va_P D vwCl (xX K r f a g tx) H := hP
          have hD : va_D A (xX K r f a g tx) := hD
          refine lv_iload_n hx hb dX0_sendBuilder_32 rfl (lv_at hl 2 rfl) ?_
          refine lv_ishr hx hb dX0_sendBuilder_33 ?_
          refine lv_topi (fun t16 et16 => ?_)
          refine lv_iconst (v := 1) hx hb dX0_sendBuilder_34 (by decide) ?_
          refine lv_iand hx hb dX0_sendBuilder_35 ?_
          refine lv_topi (fun t17 et17 => ?_)
          have b18 : kb 0 t17 1 := kb_eq et17 (kb_and 1 (by decide) (by decide))
          refine lv_if_eq (tgt := 53) hx hb dX0_sendBuilder_36 (by decide) (fun c19 => ?_) (fun c19 => ?_)
          · have b20 : kb 0 t17 0 := kb_eq c19 kc_0
            refine lv_bipush (v := (-3)) hx hb dX0_sendBuilder_53 (by decide) ?_
            exact kI_ret (v := (-3)) hx hb hr hlocks rfl hK hS dX0_sendBuilder_55 (f, a, g) hP hD ⟨(kb_w kc_m3 (by decide) (by decide)), hI, hG, hE, (xDd_e (x := -3) (by unfold sndF; rw [if_pos (okB_y hh4), if_pos (okQ_y hh10), if_neg (bit1_n (show t17 = (if rdB k y.toNatClampNeg = true then 1 else 0) from by rw [et17, et16, hw13.2]; exact rdM_t hkk (show y.toNatClampNeg < kPn k from by have w1 := hh10; have w2 := (kPn_b hkk).2; unfold Int32.toNatClampNeg; omega) (nI_q (show y.toInt = (y.toNatClampNeg : Int) from by have w1 := hh10; unfold Int32.toNatClampNeg; omega))) c19)]) (by decide +kernel) hk0 hk1)⟩
          · have b21 : kb 1 t17 1 := kr_nel c19 b18 kc_0 (by decide)
            refine lv_aload_n hx hb dX0_sendBuilder_39 rfl (lv_at hl 0 rfl) ?_
            refine va_get (D := D) (ci := 0) (v := .ref (r 1)) (C := RX0) (T := TX0) (N := 2) hx hb hg inC0 hown hK hP 24 rfl rfl 0 (by decide) (hg _ wt1_222) (fun _ h9 => h9) rfl dX0_sendBuilder_40 ?_
            refine lv_iconst (v := 3) hx hb dX0_sendBuilder_43 (by decide) ?_
            refine lv_iload_n hx hb dX0_sendBuilder_44 rfl (lv_at hl 1 rfl) ?_
            refine lv_iload_n hx hb dX0_sendBuilder_45 rfl (lv_at hl 2 rfl) ?_
            refine kIG.callW (As := [.int 3, .int x, .int y]) (rest := []) ⟨hx, hb, hml, hown, hg⟩ (z_askedN l r f a g tx tt hT hI hG 3 x y (kb_w kc_3 (by decide) (by decide)) b5 b11 k hk0 hkk DD (lC_cg hL (hE.2.2 15 rfl)) hh4 hh10) (cwV 3 hg (kgV wt4_116 wt3_78 wt3_79 wt1_2 wt3_80) rfl rfl rfl (by decide +kernel) ⟨by decide, by decide⟩) hV hK hP hD hS hA (1) 7 rfl rfl rfl hl.1 rfl (Nat.le_of_ble_eq_true rfl) dX0_sendBuilder_46 ⟨Nat.le_refl _, Nat.le_refl _⟩ (fun v23 u24 H locs hw22 hP hD hS => ?_)
            obtain ⟨f25, a26, g27⟩ := u24
            have hP : va_P D vwCl (xX K r f25 a26 g27 tx) H := hP
            have hD : va_D A (xX K r f25 a26 g27 tx) := hD
            have hI : xI f25 a26 := hw22.2.1
            have hG : gOK K g27.2 tt := hw22.2.2.1
            have eE28 : xEk ([], [], []) f a g f25 a26 g27 := hw22.2.2.2.1
            have hE : xEk ([704, 705], [10, 23], []) f a g f25 a26 g27 := xEk_tr hE (xEk_w (by decide +kernel) eE28)
            have hk0 : sV 32 2 f25 a26 k := (sV_E hk0 eE28 (by decide +kernel) (by decide +kernel))
            have hk1 : xPs (f25 704) (f25 705) (a26 23) P (kBn k) := (xP_cg hk1 (eE28.1 704 rfl) (eE28.1 705 rfl) (eE28.2.1 23 rfl))
            refine lv_iconst (v := 1) hx hb dX0_sendBuilder_49 (by decide) ?_
            refine lv_icmp_ne (tgt := 56) hx hb dX0_sendBuilder_50 (by decide) (fun c29 => ?_) (fun c29 => ?_)
            · refine lv_aload_n hx hb dX0_sendBuilder_56 rfl (lv_at hl 0 rfl) ?_
              refine va_get (D := D) (ci := 0) (v := .ref (r 22)) (C := RX0) (T := TX0) (N := 2) hx hb hg inC0 hown hK hP 24 rfl rfl 1 (by decide) (hg _ wt1_223) (fun _ h9 => h9) rfl dX0_sendBuilder_57 ?_
              refine lv_iconst (v := 0) hx hb dX0_sendBuilder_60 (by decide) ?_
              refine lv_aload_n hx hb dX0_sendBuilder_61 rfl (lv_at hl 0 rfl) ?_
              refine va_get (D := D) (ci := 0) (v := .ref (r 1)) (C := RX0) (T := TX0) (N := 2) hx hb hg inC0 hown hK hP 24 rfl rfl 0 (by decide) (hg _ wt1_222) (fun _ h9 => h9) rfl dX0_sendBuilder_62 ?_
              refine kVG.callW (As := [.int 0, .ref (r 1)]) (rest := []) ⟨hx, hb, hml, hown, hg⟩ (z_keep l r f25 a26 g27 tx tt hT hI hG 0 (kb_w kc_0 (by decide) (by decide)) k hk0 hkk P hk1) (cwV 2 hg (kgV wt4_117 wt4_118 wt4_119 wt1_4 wt4_120) rfl rfl rfl (by decide +kernel) ⟨by decide, by decide⟩) hV hK hP hD hS hA (22) 2 rfl rfl rfl hl.1 rfl (Nat.le_of_ble_eq_true rfl) dX0_sendBuilder_65 ⟨Nat.le_refl _, Nat.le_refl _⟩ (fun u32 H locs hw30 hP hD hS => ?_)
              obtain ⟨f33, a34, g35⟩ := u32
              have hP : va_P D vwCl (xX K r f33 a34 g35 tx) H := hP
              have hD : va_D A (xX K r f33 a34 g35 tx) := hD
              have hI : xI f33 a34 := hw30.1
              have hG : gOK K g35.2 tt := hw30.2.1
              have eE36 : xEk ([704, 705], [23], []) f25 a26 g27 f33 a34 g35 := hw30.2.2.1
              have hE : xEk ([704, 705], [10, 23], []) f a g f33 a34 g35 := xEk_tr hE (xEk_w (by decide +kernel) eE36)
              have hk0 : sV 32 2 f33 a34 k := (sV_E hk0 eE36 (by decide +kernel) (by decide +kernel))
              have hk1 : xPs (f33 704) (f33 705) (a34 23) (kpP P 0 k) (kBn k) := hw30.2.2.2
              refine lv_aload_n hx hb dX0_sendBuilder_68 rfl (lv_at hl 0 rfl) ?_
              refine va_get (D := D) (ci := 0) (v := .ref (r 1)) (C := RX0) (T := TX0) (N := 2) hx hb hg inC0 hown hK hP 24 rfl rfl 0 (by decide) (hg _ wt1_222) (fun _ h9 => h9) rfl dX0_sendBuilder_69 ?_
              refine va_get (D := D) (ci := 7) (v := .ref (r 10)) (C := RX7) (T := TX7) (N := 20) hx hb hg inC7 hown hK hP 1 rfl rfl 10 (by decide) (hg _ wt1_122) (fun _ h9 => h9) rfl dX0_sendBuilder_72 ?_
              refine lv_iload_n hx hb dX0_sendBuilder_75 rfl (lv_at hl 1 rfl) ?_
              refine lv_iload_n hx hb dX0_sendBuilder_76 rfl (lv_at hl 2 rfl) ?_
              have hSv0 := hk0
              have hkP := hk1
              have hk0 := hkP
              refine va_iast hx hb hK hP hD hS 10 0 rfl rfl (kb_in b5 (by decide) (by decide)) dX0_sendBuilder_77 (fun H locs hP hD hS => ?_)
              have hP : va_P D vwCl (xX K r f33 (va_up a34 10 (upd (a34 10) x.toNatClampNeg y)) g35 tx) H := hP
              have hD : va_D A (xX K r f33 (va_up a34 10 (upd (a34 10) x.toNatClampNeg y)) g35 tx) := hD
              refine k_gen (P := fun z => va_P D vwCl (xX K r f33 z g35 tx) H ∧ va_D A (xX K r f33 z g35 tx) ∧ (xI f33 z) ∧ (gOK K g35.2 tt) ∧ (xEk ([704, 705], [10, 23], []) f a g f33 z g35) ∧ (xPs (f33 704) (f33 705) (z 23) (kpP P 0 k) (kBn k))) (va_up a34 10 (upd (a34 10) x.toNatClampNeg y)) ⟨hP, hD, (xI_a hI (by decide)), hG, (xEk_a hE rfl), hk0⟩ (fun a_37 ea_37 hq => ?_)
              obtain ⟨hP, hD, hI, hG, hE, hk0⟩ := hq
              refine lv_aload_n hx hb dX0_sendBuilder_78 rfl (lv_at hl 0 rfl) ?_
              refine va_get (D := D) (ci := 0) (v := .ref (r 1)) (C := RX0) (T := TX0) (N := 2) hx hb hg inC0 hown hK hP 24 rfl rfl 0 (by decide) (hg _ wt1_222) (fun _ h9 => h9) rfl dX0_sendBuilder_79 ?_
              refine va_get (D := D) (ci := 7) (v := .ref (r 6)) (C := RX7) (T := TX7) (N := 20) hx hb hg inC7 hown hK hP 1 rfl rfl 5 (by decide) (hg _ wt1_98) (fun _ h9 => h9) rfl dX0_sendBuilder_82 ?_
              refine lv_iload_n hx hb dX0_sendBuilder_85 rfl (lv_at hl 2 rfl) ?_
              refine va_iald hx hb hK hP 6 0 rfl rfl (kb_in b11 (by decide) (by decide)) dX0_sendBuilder_86 ?_
              refine lv_topi (fun t38 et38 => ?_)
              exact kI_ret (v := t38) hx hb hr hlocks rfl hK hS dX0_sendBuilder_87 (f33, a_37, g35) hP hD ⟨(kb_any t38), hI, hG, hE, (xDd_e (by unfold sndF; rw [if_pos (okB_y hh4), if_pos (okQ_y hh10), if_pos (bit1_y (show t17 = (if rdB k y.toNatClampNeg = true then 1 else 0) from by rw [et17, et16, hw13.2]; exact rdM_t hkk (show y.toNatClampNeg < kPn k from by have w1 := hh10; have w2 := (kPn_b hkk).2; unfold Int32.toNatClampNeg; omega) (nI_q (show y.toInt = (y.toNatClampNeg : Int) from by have w1 := hh10; unfold Int32.toNatClampNeg; omega))) c19), if_neg (fun q => c29 (Int32.toInt_inj.mp ((show v23.toInt = askF DD k 3 x y from by have w1 := hw22.2.2.2.2; rw [show (3 : Int32).toInt.toNat = 3 from by decide +kernel] at w1; exact w1).trans (q.trans (by decide +kernel)))))]) (congrArg Int32.toInt ((et38.trans ((congrFun (show a_37 6 = a34 6 from by rw [← ea_37]; rfl) (y.toNatClampNeg)).trans ((congrFun (eE36.2.1 6 rfl) (y.toNatClampNeg)).trans (congrFun (eE28.2.1 6 rfl) (y.toNatClampNeg))))).trans (sv_left hVw (kb_clt b11 (by decide) (by decide))))) (sV_pl hVw (hE.1 32 rfl) (hE.1 38 rfl) (hE.1 44 rfl) (hE.1 49 rfl) (hE.1 50 rfl) (fun j hj hn => by rcases (show j = 0 ∨ j = 1 ∨ j = 2 ∨ j = 3 ∨ j = 4 ∨ j = 5 ∨ j = 6 ∨ j = 7 ∨ j = 9 ∨ j = 10 ∨ j = 11 ∨ j = 12 by omega) with e | e | e | e | e | e | e | e | e | e | e | e <;> (subst e; exact hE.2.1 _ rfl)) ((show a_37 10 = upd (a34 10) x.toNatClampNeg y from by rw [← ea_37]; rfl).trans (congrArg (fun zz_ => upd zz_ x.toNatClampNeg y) ((eE36.2.1 10 rfl).trans (eE28.2.1 10 rfl)))) (kb_clt b5 (by decide) (by decide))) hk0)⟩
            · have b39 : kb 1 v23 1 := kb_eq c29 kc_1
              refine lv_bipush (v := (-3)) hx hb dX0_sendBuilder_53 (by decide) ?_
              exact kI_ret (v := (-3)) hx hb hr hlocks rfl hK hS dX0_sendBuilder_55 (f25, a26, g27) hP hD ⟨(kb_w kc_m3 (by decide) (by decide)), hI, hG, hE, (xDd_e (x := -3) (by unfold sndF; rw [if_pos (okB_y hh4), if_pos (okQ_y hh10), if_pos (bit1_y (show t17 = (if rdB k y.toNatClampNeg = true then 1 else 0) from by rw [et17, et16, hw13.2]; exact rdM_t hkk (show y.toNatClampNeg < kPn k from by have w1 := hh10; have w2 := (kPn_b hkk).2; unfold Int32.toNatClampNeg; omega) (nI_q (show y.toInt = (y.toNatClampNeg : Int) from by have w1 := hh10; unfold Int32.toNatClampNeg; omega))) c19), if_pos ((show v23.toInt = askF DD k 3 x y from by have w1 := hw22.2.2.2.2; rw [show (3 : Int32).toInt.toNat = 3 from by decide +kernel] at w1; exact w1).symm.trans (by rw [c29]; decide +kernel))]) (by decide +kernel) hk0 hk1)⟩
        · exact kb_dj c12 kc_1 kc_0 (by decide)
      · refine k_top (z := 0) (hw7.2.trans (if_neg hh10)) ?_
        refine lv_if_ne (tgt := 25) hx hb dX0_sendBuilder_19 (by decide) (fun c40 => ?_) (fun c40 => ?_)
        · exact kb_nsame c40 kc_0 kc_0
        · refine lv_bipush (v := (-2)) hx hb dX0_sendBuilder_22 (by decide) ?_
          exact kI_ret (v := (-2)) hx hb hr hlocks rfl hK hS dX0_sendBuilder_24 (f, a, g) hP hD ⟨(kb_w kc_m2 (by decide) (by decide)), hI, hG, hE, (xDd_e (x := -2) (by unfold sndF; rw [if_pos (okB_y hh4), if_neg (okQ_n hh10)]) (by decide +kernel) hk0 hk1)⟩
  · refine k_top (z := 0) (hw1.2.trans (if_neg hh4)) ?_
    refine lv_if_eq (tgt := 22) hx hb dX0_sendBuilder_8 (by decide) (fun c41 => ?_) (fun c41 => ?_)
    · refine lv_bipush (v := (-2)) hx hb dX0_sendBuilder_22 (by decide) ?_
      exact kI_ret (v := (-2)) hx hb hr hlocks rfl hK hS dX0_sendBuilder_24 (f, a, g) hP hD ⟨(kb_w kc_m2 (by decide) (by decide)), hI, hG, hE, (xDd_e (x := -2) (by unfold sndF; rw [if_neg (okB_n hh4)]) (by decide +kernel) hk0 hk1)⟩
    · exact kb_nsame c41 kc_0 kc_0
set_option maxHeartbeats 4000000 in
set_option maxRecDepth 100000 in
theorem z_restBuilder  (l : Launch) {D : va_G} {K : Nat → ClassId} (r : Nat → Nat) (f : Nat → Int32) (a : Nat → Nat → Int32) (g : xG) (tx tt : va_W) (hT : ∀ c ∈ tt, c ∈ tx) (hI : xI f a) (hG : gOK K g.2 tt) (x : Int32)  (k : Nat → Int32) (hVw : sV 32 2 f a k) (hkk : kK k) (P : pS) (hp0 : xPs (f 704) (f 705) (a 23) P (kBn k)) : kIG l yX0_restBuilder (Cond.code yX0_restBuilder cX0_restBuilder 3 (some .int) :: kG) (rmD 3 0 0) D K [.ref (r 24), .int x] (xX K r f a g tx) (fun v (u : xS) => kb (-2147483648) v 2147483647 ∧ xI u.1 u.2.1 ∧ gOK K u.2.2.2 tt ∧ xEk ([704, 705], [10, 23], []) f a g u.1 u.2.1 u.2.2 ∧ xDd 32 2 v u.1 u.2.1 (rstF k P x) (kBn k)) (fun u => xX K r u.1 u.2.1 u.2.2 tx) 0 0 := by
  refine kIE.of (cc := cX0_restBuilder) (maxL := 3) (ret := (some .int)) (by decide) rfl (Nat.le_of_ble_eq_true rfl) ?_
  intro p e s m below meth c A hx hb hr hml hown hts hlocks hnm hK hP hD hS hA hV ls hl
  have hE : xEk ([704, 705], [10, 23], []) f a g f a g := xEk_rf
  have hg : ∀ w ∈ kG, w.before _ s = true := fun w h => hts w (List.mem_cons_of_mem _ h)
  have hown : s.vm.findClass RX0 = some m.cls := hown
  have hl : lv_has ls 3 [(0, .ref (r 24)), (1, .int x)] := hl
  have hk0 : sV 32 2 f a k := hVw
  have hk1 := hp0
  refine lv_aload_n hx hb dX0_restBuilder_0 rfl (lv_at hl 0 rfl) ?_
  refine va_get (D := D) (ci := 0) (v := .ref (r 1)) (C := RX0) (T := TX0) (N := 2) hx hb hg inC0 hown hK hP 24 rfl rfl 0 (by decide) (hg _ wt1_222) (fun _ h9 => h9) rfl dX0_restBuilder_1 ?_
  refine lv_iload_n hx hb dX0_restBuilder_4 rfl (lv_at hl 1 rfl) ?_
  refine kIG.callW (As := [.int x]) (rest := []) ⟨hx, hb, hml, hown, hg⟩ (z_hasBuilderN l r f a g tx tt hT hI hG x  k hk0 hkk ) (cwV 1 hg (kgV wt4_113 wt3_68 wt3_69 wt1_2 wt3_70) rfl rfl rfl (by decide +kernel) ⟨by decide, by decide⟩) hV hK hP hD hS hA (1) 7 rfl rfl rfl hl.1 rfl (Nat.le_of_ble_eq_true rfl) dX0_restBuilder_5 ⟨Nat.le_refl _, Nat.le_refl _⟩ (fun v2 u3 H locs hw1 hP hD hS => ?_)
  have hP : va_P D vwCl (xX K r f a g tx) H := hP
  have hD : va_D A (xX K r f a g tx) := hD
  by_cases hh4 : 0 ≤ x.toInt ∧ x.toInt < (k 103).toInt
  · refine k_top (z := 1) (hw1.2.trans (if_pos hh4)) ?_
    have b5 : kb 0 x 5 := ⟨hh4.1, by have w1 := hh4.2; have w2 := (kK_r hkk 103 0 6 (by decide) (by decide)).2; omega⟩
    refine lv_if_ne (tgt := 14) hx hb dX0_restBuilder_8 (by decide) (fun c6 => ?_) (fun c6 => ?_)
    · refine lv_aload_n hx hb dX0_restBuilder_14 rfl (lv_at hl 0 rfl) ?_
      refine va_get (D := D) (ci := 0) (v := .ref (r 1)) (C := RX0) (T := TX0) (N := 2) hx hb hg inC0 hown hK hP 24 rfl rfl 0 (by decide) (hg _ wt1_222) (fun _ h9 => h9) rfl dX0_restBuilder_15 ?_
      refine va_get (D := D) (ci := 7) (v := .ref (r 10)) (C := RX7) (T := TX7) (N := 20) hx hb hg inC7 hown hK hP 1 rfl rfl 10 (by decide) (hg _ wt1_122) (fun _ h9 => h9) rfl dX0_restBuilder_18 ?_
      refine lv_iload_n hx hb dX0_restBuilder_21 rfl (lv_at hl 1 rfl) ?_
      refine va_iald hx hb hK hP 10 0 rfl rfl (kb_in b5 (by decide) (by decide)) dX0_restBuilder_22 ?_
      refine lv_topi (fun t7 et7 => ?_)
      have kvt7 : t7 = k (16 + x.toNatClampNeg) := et7.trans ((sv_place hk0 (kb_clt b5 (by decide) (by decide)) (by have w1 := hh4; have w4 := (b5).1; have w5 := kb_cl b5 (by decide); omega)))
      have b8 : kb (-1) t7 9 := kb_eq et7 (et7 ▸ kb_eq kvt7 (kK_s hkk 16 6 _ _ (by decide) (by decide) (kb_clt b5 (by decide) (by decide))))
      refine lv_istore_n (lv' := [(2, .int t7), (0, .ref (r 24)), (1, .int x)]) hx hb dX0_restBuilder_23 rfl hl (by decide) rfl (fun ls hl => ?_)
      refine lv_iload_n hx hb dX0_restBuilder_24 rfl (lv_at hl 0 rfl) ?_
      refine lv_iconst (v := (-1)) hx hb dX0_restBuilder_25 (by decide) ?_
      refine lv_icmp_ne (tgt := 32) hx hb dX0_restBuilder_26 (by decide) (fun c9 => ?_) (fun c9 => ?_)
      · have b10 : kb 0 t7 9 := kr_nel c9 b8 kc_m1 (by decide)
        refine lv_aload_n hx hb dX0_restBuilder_32 rfl (lv_at hl 1 rfl) ?_
        refine va_get (D := D) (ci := 0) (v := .ref (r 22)) (C := RX0) (T := TX0) (N := 2) hx hb hg inC0 hown hK hP 24 rfl rfl 1 (by decide) (hg _ wt1_223) (fun _ h9 => h9) rfl dX0_restBuilder_33 ?_
        refine lv_iconst (v := 1) hx hb dX0_restBuilder_36 (by decide) ?_
        refine lv_aload_n hx hb dX0_restBuilder_37 rfl (lv_at hl 1 rfl) ?_
        refine va_get (D := D) (ci := 0) (v := .ref (r 1)) (C := RX0) (T := TX0) (N := 2) hx hb hg inC0 hown hK hP 24 rfl rfl 0 (by decide) (hg _ wt1_222) (fun _ h9 => h9) rfl dX0_restBuilder_38 ?_
        refine kVG.callW (As := [.int 1, .ref (r 1)]) (rest := []) ⟨hx, hb, hml, hown, hg⟩ (z_keep l r f a g tx tt hT hI hG 1 (kb_w kc_1 (by decide) (by decide)) k hk0 hkk P hk1) (cwV 2 hg (kgV wt4_117 wt4_118 wt4_119 wt1_4 wt4_120) rfl rfl rfl (by decide +kernel) ⟨by decide, by decide⟩) hV hK hP hD hS hA (22) 2 rfl rfl rfl hl.1 rfl (Nat.le_of_ble_eq_true rfl) dX0_restBuilder_41 ⟨Nat.le_refl _, Nat.le_refl _⟩ (fun u13 H locs hw11 hP hD hS => ?_)
        obtain ⟨f14, a15, g16⟩ := u13
        have hP : va_P D vwCl (xX K r f14 a15 g16 tx) H := hP
        have hD : va_D A (xX K r f14 a15 g16 tx) := hD
        have hI : xI f14 a15 := hw11.1
        have hG : gOK K g16.2 tt := hw11.2.1
        have eE17 : xEk ([704, 705], [23], []) f a g f14 a15 g16 := hw11.2.2.1
        have hE : xEk ([704, 705], [10, 23], []) f a g f14 a15 g16 := xEk_tr hE (xEk_w (by decide +kernel) eE17)
        have hk0 : sV 32 2 f14 a15 k := (sV_E hk0 eE17 (by decide +kernel) (by decide +kernel))
        have hk1 : xPs (f14 704) (f14 705) (a15 23) (kpP P 1 k) (kBn k) := hw11.2.2.2
        refine lv_aload_n hx hb dX0_restBuilder_44 rfl (lv_at hl 1 rfl) ?_
        refine va_get (D := D) (ci := 0) (v := .ref (r 1)) (C := RX0) (T := TX0) (N := 2) hx hb hg inC0 hown hK hP 24 rfl rfl 0 (by decide) (hg _ wt1_222) (fun _ h9 => h9) rfl dX0_restBuilder_45 ?_
        refine va_get (D := D) (ci := 7) (v := .ref (r 10)) (C := RX7) (T := TX7) (N := 20) hx hb hg inC7 hown hK hP 1 rfl rfl 10 (by decide) (hg _ wt1_122) (fun _ h9 => h9) rfl dX0_restBuilder_48 ?_
        refine lv_iload_n hx hb dX0_restBuilder_51 rfl (lv_at hl 2 rfl) ?_
        refine lv_iconst (v := (-1)) hx hb dX0_restBuilder_52 (by decide) ?_
        have hSv0 := hk0
        have hkP := hk1
        have hk0 := hkP
        refine va_iast hx hb hK hP hD hS 10 0 rfl rfl (kb_in b5 (by decide) (by decide)) dX0_restBuilder_53 (fun H locs hP hD hS => ?_)
        have hP : va_P D vwCl (xX K r f14 (va_up a15 10 (upd (a15 10) x.toNatClampNeg (-1))) g16 tx) H := hP
        have hD : va_D A (xX K r f14 (va_up a15 10 (upd (a15 10) x.toNatClampNeg (-1))) g16 tx) := hD
        refine k_gen (P := fun z => va_P D vwCl (xX K r f14 z g16 tx) H ∧ va_D A (xX K r f14 z g16 tx) ∧ (xI f14 z) ∧ (gOK K g16.2 tt) ∧ (xEk ([704, 705], [10, 23], []) f a g f14 z g16) ∧ (xPs (f14 704) (f14 705) (z 23) (kpP P 1 k) (kBn k))) (va_up a15 10 (upd (a15 10) x.toNatClampNeg (-1))) ⟨hP, hD, (xI_a hI (by decide)), hG, (xEk_a hE rfl), hk0⟩ (fun a_18 ea_18 hq => ?_)
        obtain ⟨hP, hD, hI, hG, hE, hk0⟩ := hq
        refine lv_iload_n hx hb dX0_restBuilder_54 rfl (lv_at hl 0 rfl) ?_
        exact kI_ret (v := t7) hx hb hr hlocks rfl hK hS dX0_restBuilder_55 (f14, a_18, g16) hP hD ⟨(kb_w b10 (by decide) (by decide)), hI, hG, hE, (xDd_e (by unfold rstF; rw [if_pos (okB_y hh4), if_neg (fun q => c9 (kvt7.trans q))]) (congrArg Int32.toInt kvt7) (sV_pl hVw (hE.1 32 rfl) (hE.1 38 rfl) (hE.1 44 rfl) (hE.1 49 rfl) (hE.1 50 rfl) (fun j hj hn => by rcases (show j = 0 ∨ j = 1 ∨ j = 2 ∨ j = 3 ∨ j = 4 ∨ j = 5 ∨ j = 6 ∨ j = 7 ∨ j = 9 ∨ j = 10 ∨ j = 11 ∨ j = 12 by omega) with e | e | e | e | e | e | e | e | e | e | e | e <;> (subst e; exact hE.2.1 _ rfl)) ((show a_18 10 = upd (a15 10) x.toNatClampNeg (-1) from by rw [← ea_18]; rfl).trans (congrArg (fun zz_ => upd zz_ x.toNatClampNeg (-1)) (eE17.2.1 10 rfl))) (kb_clt b5 (by decide) (by decide))) hk0)⟩
      · have b19 : kb (-1) t7 (-1) := kb_eq c9 kc_m1
        refine lv_bipush (v := (-3)) hx hb dX0_restBuilder_29 (by decide) ?_
        exact kI_ret (v := (-3)) hx hb hr hlocks rfl hK hS dX0_restBuilder_31 (f, a, g) hP hD ⟨(kb_w kc_m3 (by decide) (by decide)), hI, hG, hE, (xDd_e (x := -3) (by unfold rstF; rw [if_pos (okB_y hh4), if_pos (kvt7.symm.trans c9)]) (by decide +kernel) hk0 hk1)⟩
    · exact kb_dj c6 kc_1 kc_0 (by decide)
  · refine k_top (z := 0) (hw1.2.trans (if_neg hh4)) ?_
    refine lv_if_ne (tgt := 14) hx hb dX0_restBuilder_8 (by decide) (fun c20 => ?_) (fun c20 => ?_)
    · exact kb_nsame c20 kc_0 kc_0
    · refine lv_bipush (v := (-2)) hx hb dX0_restBuilder_11 (by decide) ?_
      exact kI_ret (v := (-2)) hx hb hr hlocks rfl hK hS dX0_restBuilder_13 (f, a, g) hP hD ⟨(kb_w kc_m2 (by decide) (by decide)), hI, hG, hE, (xDd_e (x := -2) (by unfold rstF; rw [if_neg (okB_n hh4)]) (by decide +kernel) hk0 hk1)⟩
set_option maxHeartbeats 4000000 in
set_option maxRecDepth 100000 in
theorem z_hasAnybody  (l : Launch) {D : va_G} {K : Nat → ClassId} (r : Nat → Nat) (f : Nat → Int32) (a : Nat → Nat → Int32) (g : xG) (tx tt : va_W) (hT : ∀ c ∈ tt, c ∈ tx) (hI : xI f a) (hG : gOK K g.2 tt) (x : Int32)  (k : Nat → Int32) (hVw : sV 32 2 f a k) (hkk : kK k)   : kIG l yX0_hasAnybody (Cond.code yX0_hasAnybody cX0_hasAnybody 3 (some .boolean) :: kG) (rmD 1 0 0) D K [.ref (r 24), .int x] (xX K r f a g tx) (fun v (_ : Unit) => kb 0 v 1 ∧ v = (if 0 < oth k (-1) x (kBn k) then 1 else 0)) (fun _ => xX K r f a g tx) 0 0 := by
  refine kIE.of (cc := cX0_hasAnybody) (maxL := 3) (ret := (some .boolean)) (by decide) rfl (Nat.le_of_ble_eq_true rfl) ?_
  intro p e s m below meth c A hx hb hr hml hown hts hlocks hnm hK hP hD hS hA hV ls hl
  have hg : ∀ w ∈ kG, w.before _ s = true := fun w h => hts w (List.mem_cons_of_mem _ h)
  have hown : s.vm.findClass RX0 = some m.cls := hown
  have hl : lv_has ls 3 [(0, .ref (r 24)), (1, .int x)] := hl
  refine lv_iconst (v := 0) hx hb dX0_hasAnybody_0 (by decide) ?_
  refine lv_istore_n (lv' := [(2, .int 0), (0, .ref (r 24)), (1, .int x)]) hx hb dX0_hasAnybody_1 rfl hl (by decide) rfl (fun ls hl => ?_)
  have lp2 : ∀ (n3 : Nat) (nn : Nat) (H : Heap) (locs : List Loc) (ls : Array Slot) (y1 : Int32), (6 < y1.toInt + (n3 : Int)) → (kb 0 y1 6) → (y1.toInt = (nn : Int)) → (oth k (-1) x nn = 0) → (nn ≤ kBn k) → va_P D vwCl (xX K r f a g tx) H → va_D A (xX K r f a g tx) → va_S A s.heap H locs → lv_has ls 3 [(2, .int y1), (0, .ref (r 24)), (1, .int x)] → W p l e (rmD 1 0 0) s m ([.ref (r 24), .int x] : List Value).toArray below meth c H locs 0 0 (kQi D (tysK K) (fun v (_ : Unit) => kb 0 v 1 ∧ v = (if 0 < oth k (-1) x (kBn k) then 1 else 0)) (fun _ => xX K r f a g tx) A below ([.ref (r 24), .int x] : List Value).toArray s 0 0) (F0 m 2 ls []) := by
    intro n3
    induction n3 with
    | zero =>
      intro nn  H locs ls y1 hmlp2 b4 hvlp2_0 hvlp2_1 hvlp2_2 hP hD hS hl
      exact (by have h1 := b4.2; have h2 := hmlp2; omega : False).elim
    | succ n3 ihlp2 =>
      intro nn  H locs ls y1 hmlp2 b4 hvlp2_0 hvlp2_1 hvlp2_2 hP hD hS hl
      have hnn : y1 = nI nn := nI_q hvlp2_0
      refine lv_iload_n hx hb dX0_hasAnybody_2 rfl (lv_at hl 0 rfl) ?_
      refine lv_aload_n hx hb dX0_hasAnybody_3 rfl (lv_at hl 1 rfl) ?_
      refine va_get (D := D) (ci := 0) (v := .ref (r 1)) (C := RX0) (T := TX0) (N := 2) hx hb hg inC0 hown hK hP 24 rfl rfl 0 (by decide) (hg _ wt1_222) (fun _ h9 => h9) rfl dX0_hasAnybody_4 ?_
      refine va_get (D := D) (ci := 7) (v := .int (f 38)) (C := RX7) (T := TX7) (N := 20) hx hb hg inC7 hown hK hP 1 rfl rfl 6 (by decide) (hg _ wt1_108) (fun _ h9 => h9) rfl dX0_hasAnybody_7 ?_
      refine lv_topi (fun t5 et5 => ?_)
      have kvt5 : t5 = k 103 := et5.trans ((sv_builders hVw))
      have kvit5 : t5.toInt = (k 103).toInt := congrArg Int32.toInt kvt5
      have b6 : kb 0 t5 6 := kb_eq kvt5 (kK_r hkk 103 _ _ (by decide) (by decide))
      refine lv_icmp_ge (tgt := 40) hx hb dX0_hasAnybody_10 (by decide) (fun c7 => ?_) (fun c7 => ?_)
      · have h8 := (kc_le c7)
        refine lv_iconst (v := 0) hx hb dX0_hasAnybody_40 (by decide) ?_
        exact kI_ret (v := 0) hx hb hr hlocks (by decide +kernel) hK hS dX0_hasAnybody_41 () hP hD ⟨(kb_w kc_0 (by decide) (by decide)), (by rw [if_neg]; have w8 := hvlp2_1; rw [(by have w1 := hvlp2_0; have w3 := kvit5; have w4 := (kBn_b hkk).2; have w5 := hvlp2_2; have w9 := (kBn_b hkk).1; have w2 := kc_le c7; omega : nn = kBn k)] at w8; omega)⟩
      · have h9 := (kc_nle c7)
        have b10 : kb 0 y1 5 := kr_lt1 h9 b4 b6 (by decide)
        have b11 : kb 1 t5 6 := kr_lt2 h9 b4 b6 (by decide)
        refine lv_iload_n hx hb dX0_hasAnybody_13 rfl (lv_at hl 0 rfl) ?_
        refine lv_bipush (v := 6) hx hb dX0_hasAnybody_14 (by decide) ?_
        refine lv_icmp_ge (tgt := 40) hx hb dX0_hasAnybody_16 (by decide) (fun c12 => ?_) (fun c12 => ?_)
        · have h13 := (kc_le c12)
          exact kb_no (kr_le1 h13 kc_6 b10) (by decide)
        · have h14 := (kc_nle c12)
          refine lv_aload_n hx hb dX0_hasAnybody_19 rfl (lv_at hl 1 rfl) ?_
          refine va_get (D := D) (ci := 0) (v := .ref (r 1)) (C := RX0) (T := TX0) (N := 2) hx hb hg inC0 hown hK hP 24 rfl rfl 0 (by decide) (hg _ wt1_222) (fun _ h9 => h9) rfl dX0_hasAnybody_20 ?_
          refine va_get (D := D) (ci := 7) (v := .ref (r 10)) (C := RX7) (T := TX7) (N := 20) hx hb hg inC7 hown hK hP 1 rfl rfl 10 (by decide) (hg _ wt1_122) (fun _ h9 => h9) rfl dX0_hasAnybody_23 ?_
          refine lv_iload_n hx hb dX0_hasAnybody_26 rfl (lv_at hl 0 rfl) ?_
          refine va_iald hx hb hK hP 10 0 rfl rfl (kb_in b10 (by decide) (by decide)) dX0_hasAnybody_27 ?_
          refine lv_topi (fun t15 et15 => ?_)
          have kvt15 : t15 = k (16 + y1.toNatClampNeg) := et15.trans ((sv_place hVw (kb_clt b10 (by decide) (by decide)) (by have w1 := hvlp2_0; have w2 := kc_nle c7; have w3 := kvit5; have w5 := kb_cl b10 (by decide); omega)))
          have b16 : kb (-1) t15 9 := kb_eq et15 (et15 ▸ kb_eq kvt15 (kK_s hkk 16 6 _ _ (by decide) (by decide) (kb_clt b10 (by decide) (by decide))))
          refine lv_iload_n hx hb dX0_hasAnybody_28 rfl (lv_at hl 2 rfl) ?_
          refine lv_icmp_ne (tgt := 34) hx hb dX0_hasAnybody_29 (by decide) (fun c17 => ?_) (fun c17 => ?_)
          · obtain ⟨t18, et18⟩ : ∃ z : Int32, z = y1 + Int32.ofInt 1 := ⟨_, rfl⟩
            have qt18 : t18.toInt = y1.toInt + 1 := by rw [et18]; exact km_inc b10 (by decide) (by decide)
            have b19 : kb 1 t18 6 := kb_inc (k := 1) qt18 b10
            refine lv_iinc (v := t18) (lv' := [(2, .int t18), (0, .ref (r 24)), (1, .int x)]) hx hb dX0_hasAnybody_34 hl (k := 0) rfl et18.symm (by decide) rfl (fun ls hl => ?_)
            refine lv_goto (tgt := 2) hx hb dX0_hasAnybody_37 (by decide) ?_
            exact ihlp2 (nn + 1) _ _ _ t18 (km_up hmlp2 qt18) (kb_w b19 (by decide) (by decide)) (by have w1 := hvlp2_0; have w2 := qt18; omega) (oth_zs hvlp2_1 (fun q => c17 ((kvt15.trans (congrArg k (by rw [cl_nat hvlp2_0]))).trans q))) ((by have w1 := hvlp2_0; have w2 := kc_nle c7; have w3 := kvit5; have w4 := (kBn_b hkk).2; omega)) hP hD hS (lv_sub hl [0, 1, 2] rfl)
          · have b20 : kb (-1) x 9 := kb_eq c17.symm b16
            refine lv_iconst (v := 1) hx hb dX0_hasAnybody_32 (by decide) ?_
            exact kI_ret (v := 1) hx hb hr hlocks (by decide +kernel) hK hS dX0_hasAnybody_33 () hP hD ⟨(kb_w kc_1 (by decide) (by decide)), (by rw [if_pos]; exact oth_pos (by have w1 := hvlp2_0; have w2 := kc_nle c7; have w3 := kvit5; have w4 := (kBn_b hkk).2; omega : nn < kBn k) (kBn_b hkk).1 ((kvt15.trans (congrArg k (by rw [cl_nat hvlp2_0]))).symm.trans c17))⟩
  exact lp2 (7) 0 _ _ _ 0 (by have h1 := (kc_0); unfold kb at h1; omega) (kb_w kc_0 (by decide) (by decide)) (by decide +kernel) (rfl) (Nat.zero_le _) hP hD hS (lv_sub hl [0, 1, 2] rfl)
set_option maxHeartbeats 4000000 in
set_option maxRecDepth 100000 in
theorem z_isBuiltOn  (l : Launch) {D : va_G} {K : Nat → ClassId} (r : Nat → Nat) (f : Nat → Int32) (a : Nat → Nat → Int32) (g : xG) (tx tt : va_W) (hT : ∀ c ∈ tt, c ∈ tx) (hI : xI f a) (hG : gOK K g.2 tt) (y_ : Int32) (by_ : kb 0 y_ 9) (k : Nat → Int32) (hVw : sV 32 2 f a k) (hkk : kK k)   : kIG l yX0_isBuiltOn (Cond.code yX0_isBuiltOn cX0_isBuiltOn 3 (some .boolean) :: kG) (rmD 2 0 0) D K [.ref (r 24), .int y_] (xX K r f a g tx) (fun v (_ : Unit) => kb 0 v 1 ∧ ((v = 0 ∧ ∀ q, q < kPn k → ¬ ((k (33 + q) >>> (y_ &&& 31)) &&& 1 = 1 ∧ tcB k q = true)) ∨ (v = 1 ∧ ∃ q, q < kPn k ∧ (k (33 + q) >>> (y_ &&& 31)) &&& 1 = 1 ∧ tcB k q = true))) (fun _ => xX K r f a g tx) 0 0 := by
  refine kIE.of (cc := cX0_isBuiltOn) (maxL := 3) (ret := (some .boolean)) (by decide) rfl (Nat.le_of_ble_eq_true rfl) ?_
  intro p e s m below meth c A hx hb hr hml hown hts hlocks hnm hK hP hD hS hA hV ls hl
  have hg : ∀ w ∈ kG, w.before _ s = true := fun w h => hts w (List.mem_cons_of_mem _ h)
  have hown : s.vm.findClass RX0 = some m.cls := hown
  have hl : lv_has ls 3 [(0, .ref (r 24)), (1, .int y_)] := hl
  refine lv_iconst (v := 0) hx hb dX0_isBuiltOn_0 (by decide) ?_
  refine lv_istore_n (lv' := [(2, .int 0), (0, .ref (r 24)), (1, .int y_)]) hx hb dX0_isBuiltOn_1 rfl hl (by decide) rfl (fun ls hl => ?_)
  have lp2 : ∀ (n3 : Nat) (nn : Nat) (H : Heap) (locs : List Loc) (ls : Array Slot) (y1 : Int32), (10 < y1.toInt + (n3 : Int)) → (kb 0 y1 10) → (y1.toInt = (nn : Int)) → (∀ q, q < nn → ¬ ((k (33 + q) >>> (y_ &&& 31)) &&& 1 = 1 ∧ tcB k q = true)) → (nn ≤ kPn k) → va_P D vwCl (xX K r f a g tx) H → va_D A (xX K r f a g tx) → va_S A s.heap H locs → lv_has ls 3 [(2, .int y1), (0, .ref (r 24)), (1, .int y_)] → W p l e (rmD 2 0 0) s m ([.ref (r 24), .int y_] : List Value).toArray below meth c H locs 0 0 (kQi D (tysK K) (fun v (_ : Unit) => kb 0 v 1 ∧ ((v = 0 ∧ ∀ q, q < kPn k → ¬ ((k (33 + q) >>> (y_ &&& 31)) &&& 1 = 1 ∧ tcB k q = true)) ∨ (v = 1 ∧ ∃ q, q < kPn k ∧ (k (33 + q) >>> (y_ &&& 31)) &&& 1 = 1 ∧ tcB k q = true))) (fun _ => xX K r f a g tx) A below ([.ref (r 24), .int y_] : List Value).toArray s 0 0) (F0 m 2 ls []) := by
    intro n3
    induction n3 with
    | zero =>
      intro nn  H locs ls y1 hmlp2 b4 hvlp2_0 hvlp2_1 hvlp2_2 hP hD hS hl
      exact (by have h1 := b4.2; have h2 := hmlp2; omega : False).elim
    | succ n3 ihlp2 =>
      intro nn  H locs ls y1 hmlp2 b4 hvlp2_0 hvlp2_1 hvlp2_2 hP hD hS hl
      have hnn : y1 = nI nn := nI_q hvlp2_0
      refine lv_iload_n hx hb dX0_isBuiltOn_2 rfl (lv_at hl 0 rfl) ?_
      refine lv_aload_n hx hb dX0_isBuiltOn_3 rfl (lv_at hl 1 rfl) ?_
      refine va_get (D := D) (ci := 0) (v := .ref (r 1)) (C := RX0) (T := TX0) (N := 2) hx hb hg inC0 hown hK hP 24 rfl rfl 0 (by decide) (hg _ wt1_222) (fun _ h9 => h9) rfl dX0_isBuiltOn_4 ?_
      refine va_get (D := D) (ci := 7) (v := .int (f 32)) (C := RX7) (T := TX7) (N := 20) hx hb hg inC7 hown hK hP 1 rfl rfl 0 (by decide) (hg _ wt1_82) (fun _ h9 => h9) rfl dX0_isBuiltOn_7 ?_
      refine lv_topi (fun t5 et5 => ?_)
      have b6 : kb 0 t5 10 := kb_eq et5 (fI_at hI.1 32 (by decide) (by decide))
      have kvt5 : t5 = k 102 := et5.trans ((sv_parts hVw))
      have kvit5 : t5.toInt = (k 102).toInt := congrArg Int32.toInt kvt5
      have b7 : kb 0 t5 10 := kb_eq kvt5 (kK_r hkk 102 _ _ (by decide) (by decide))
      refine lv_icmp_ge (tgt := 73) hx hb dX0_isBuiltOn_10 (by decide) (fun c8 => ?_) (fun c8 => ?_)
      · have h9 := (kc_le c8)
        refine lv_iconst (v := 0) hx hb dX0_isBuiltOn_73 (by decide) ?_
        exact kI_ret (v := 0) hx hb hr hlocks (by decide +kernel) hK hS dX0_isBuiltOn_74 () hP hD ⟨(kb_w kc_0 (by decide) (by decide)), (Or.inl ⟨rfl, by have w8 := hvlp2_1; rw [(by have w1 := hvlp2_0; have w3 := kvit5; have w4 := (kPn_b hkk).2; have w5 := hvlp2_2; have w9 := (kPn_b hkk).1; have w2 := kc_le c8; omega : nn = kPn k)] at w8; exact w8⟩)⟩
      · have h10 := (kc_nle c8)
        have b11 : kb 0 y1 9 := kr_lt1 h10 b4 b7 (by decide)
        have b12 : kb 1 t5 10 := kr_lt2 h10 b4 b7 (by decide)
        refine lv_iload_n hx hb dX0_isBuiltOn_13 rfl (lv_at hl 0 rfl) ?_
        refine lv_bipush (v := 10) hx hb dX0_isBuiltOn_14 (by decide) ?_
        refine lv_icmp_ge (tgt := 73) hx hb dX0_isBuiltOn_16 (by decide) (fun c13 => ?_) (fun c13 => ?_)
        · have h14 := (kc_le c13)
          exact kb_no (kr_le1 h14 kc_10 b11) (by decide)
        · have h15 := (kc_nle c13)
          refine lv_aload_n hx hb dX0_isBuiltOn_19 rfl (lv_at hl 1 rfl) ?_
          refine va_get (D := D) (ci := 0) (v := .ref (r 1)) (C := RX0) (T := TX0) (N := 2) hx hb hg inC0 hown hK hP 24 rfl rfl 0 (by decide) (hg _ wt1_222) (fun _ h9 => h9) rfl dX0_isBuiltOn_20 ?_
          refine va_get (D := D) (ci := 7) (v := .ref (r 3)) (C := RX7) (T := TX7) (N := 20) hx hb hg inC7 hown hK hP 1 rfl rfl 2 (by decide) (hg _ wt1_92) (fun _ h9 => h9) rfl dX0_isBuiltOn_23 ?_
          refine lv_iload_n hx hb dX0_isBuiltOn_26 rfl (lv_at hl 0 rfl) ?_
          refine va_iald hx hb hK hP 3 0 rfl rfl (kb_in b11 (by decide) (by decide)) dX0_isBuiltOn_27 ?_
          refine lv_topi (fun t16 et16 => ?_)
          have kvt16 : t16 = k (33 + y1.toNatClampNeg) := et16.trans ((sv_needs hVw (kb_clt b11 (by decide) (by decide))))
          have b17 : kb 0 t16 1023 := kb_eq et16 (et16 ▸ kb_eq kvt16 (kK_s hkk 33 10 _ _ (by decide) (by decide) (kb_clt b11 (by decide) (by decide))))
          refine lv_iload_n hx hb dX0_isBuiltOn_28 rfl (lv_at hl 2 rfl) ?_
          refine lv_ishr hx hb dX0_isBuiltOn_29 ?_
          refine lv_topi (fun t18 et18 => ?_)
          refine lv_iconst (v := 1) hx hb dX0_isBuiltOn_30 (by decide) ?_
          refine lv_iand hx hb dX0_isBuiltOn_31 ?_
          refine lv_topi (fun t19 et19 => ?_)
          have b20 : kb 0 t19 1 := kb_eq et19 (kb_and 1 (by decide) (by decide))
          refine lv_iconst (v := 1) hx hb dX0_isBuiltOn_32 (by decide) ?_
          refine lv_icmp_ne (tgt := 67) hx hb dX0_isBuiltOn_33 (by decide) (fun c21 => ?_) (fun c21 => ?_)
          · have b22 : kb 0 t19 0 := kr_neh c21 b20 kc_1 (by decide)
            obtain ⟨t23, et23⟩ : ∃ z : Int32, z = y1 + Int32.ofInt 1 := ⟨_, rfl⟩
            have qt23 : t23.toInt = y1.toInt + 1 := by rw [et23]; exact km_inc b11 (by decide) (by decide)
            have b24 : kb 1 t23 10 := kb_inc (k := 1) qt23 b11
            refine lv_iinc (v := t23) (lv' := [(2, .int t23), (0, .ref (r 24)), (1, .int y_)]) hx hb dX0_isBuiltOn_67 hl (k := 0) rfl et23.symm (by decide) rfl (fun ls hl => ?_)
            refine lv_goto (tgt := 2) hx hb dX0_isBuiltOn_70 (by decide) ?_
            exact ihlp2 (nn + 1) _ _ _ t23 (km_up hmlp2 qt23) (kb_w b24 (by decide) (by decide)) (by have w1 := hvlp2_0; have w2 := qt23; omega) (fun q hq => by by_cases c : q = nn; (rw [c]; exact (fun w9 => c21 ((show (k (33 + nn) >>> (y_ &&& 31)) &&& 1 = t19 from by rw [et19, et18, kvt16, cl_nat hvlp2_0]).symm.trans w9.1))); (exact hvlp2_1 q (by omega))) ((by have w1 := hvlp2_0; have w2 := kc_nle c8; have w3 := kvit5; have w4 := (kPn_b hkk).2; omega)) hP hD hS (lv_sub hl [0, 1, 2] rfl)
          · have b25 : kb 1 t19 1 := kb_eq c21 kc_1
            refine lv_aload_n hx hb dX0_isBuiltOn_36 rfl (lv_at hl 1 rfl) ?_
            refine va_get (D := D) (ci := 0) (v := .ref (r 1)) (C := RX0) (T := TX0) (N := 2) hx hb hg inC0 hown hK hP 24 rfl rfl 0 (by decide) (hg _ wt1_222) (fun _ h9 => h9) rfl dX0_isBuiltOn_37 ?_
            refine va_get (D := D) (ci := 7) (v := .ref (r 6)) (C := RX7) (T := TX7) (N := 20) hx hb hg inC7 hown hK hP 1 rfl rfl 5 (by decide) (hg _ wt1_98) (fun _ h9 => h9) rfl dX0_isBuiltOn_40 ?_
            refine lv_iload_n hx hb dX0_isBuiltOn_43 rfl (lv_at hl 0 rfl) ?_
            refine va_iald hx hb hK hP 6 0 rfl rfl (kb_in b11 (by decide) (by decide)) dX0_isBuiltOn_44 ?_
            refine lv_topi (fun t26 et26 => ?_)
            have kvt26 : t26 = k (0 + y1.toNatClampNeg) := et26.trans ((sv_left hVw (kb_clt b11 (by decide) (by decide))))
            have b27 : kb 0 t26 99 := kb_eq et26 (et26 ▸ kb_eq kvt26 (kK_s hkk 0 10 _ _ (by decide) (by decide) (kb_clt b11 (by decide) (by decide))))
            refine lv_aload_n hx hb dX0_isBuiltOn_45 rfl (lv_at hl 1 rfl) ?_
            refine va_get (D := D) (ci := 0) (v := .ref (r 1)) (C := RX0) (T := TX0) (N := 2) hx hb hg inC0 hown hK hP 24 rfl rfl 0 (by decide) (hg _ wt1_222) (fun _ h9 => h9) rfl dX0_isBuiltOn_46 ?_
            refine va_get (D := D) (ci := 7) (v := .ref (r 2)) (C := RX7) (T := TX7) (N := 20) hx hb hg inC7 hown hK hP 1 rfl rfl 1 (by decide) (hg _ wt1_88) (fun _ h9 => h9) rfl dX0_isBuiltOn_49 ?_
            refine lv_iload_n hx hb dX0_isBuiltOn_52 rfl (lv_at hl 0 rfl) ?_
            refine va_iald hx hb hK hP 2 0 rfl rfl (kb_in b11 (by decide) (by decide)) dX0_isBuiltOn_53 ?_
            refine lv_topi (fun t28 et28 => ?_)
            have kvt28 : t28 = k (23 + y1.toNatClampNeg) := et28.trans ((sv_work hVw (kb_clt b11 (by decide) (by decide))))
            have b29 : kb 0 t28 99 := kb_eq et28 (et28 ▸ kb_eq kvt28 (kK_s hkk 23 10 _ _ (by decide) (by decide) (kb_clt b11 (by decide) (by decide))))
            refine lv_icmp_lt (tgt := 65) hx hb dX0_isBuiltOn_54 (by decide) (fun c30 => ?_) (fun c30 => ?_)
            · have h31 := (kc_lt c30)
              have b32 : kb 0 t26 98 := kr_lt1 h31 b27 b29 (by decide)
              have b33 : kb 1 t28 99 := kr_lt2 h31 b27 b29 (by decide)
              refine lv_iconst (v := 1) hx hb dX0_isBuiltOn_65 (by decide) ?_
              exact kI_ret (v := 1) hx hb hr hlocks (by decide +kernel) hK hS dX0_isBuiltOn_66 () hP hD ⟨(kb_w kc_1 (by decide) (by decide)), (Or.inr ⟨rfl, nn, (by have w1 := hvlp2_0; have w2 := kc_nle c8; have w3 := kvit5; have w4 := (kPn_b hkk).2; omega : nn < kPn k), ((show (k (33 + nn) >>> (y_ &&& 31)) &&& 1 = t19 from by rw [et19, et18, kvt16, cl_nat hvlp2_0]).trans c21), (tcB_1 (by rw [← (show t26 = k (0 + nn) from kvt26.trans (congrArg k (by rw [cl_nat hvlp2_0]))), ← (show t28 = k (23 + nn) from kvt28.trans (congrArg k (by rw [cl_nat hvlp2_0])))]; exact c30))⟩)⟩
            · have h34 := (kc_nlt c30)
              refine lv_aload_n hx hb dX0_isBuiltOn_57 rfl (lv_at hl 1 rfl) ?_
              refine lv_iload_n hx hb dX0_isBuiltOn_58 rfl (lv_at hl 0 rfl) ?_
              refine kIG.callW (As := [.int y1]) (rest := []) ⟨hx, hb, hml, hown, hg⟩ (z_hasAnybody l r f a g tx tt hT hI hG y1  k hVw hkk ) (cwV 1 hg (kgV wt4_134 wt4_136 wp2_10 wt1_5 wt4_137) rfl rfl rfl (by decide +kernel) ⟨by decide, by decide⟩) hV hK hP hD hS hA (24) 0 rfl rfl rfl hl.1 rfl (Nat.le_of_ble_eq_true rfl) dX0_isBuiltOn_59 ⟨Nat.le_refl _, Nat.le_refl _⟩ (fun v36 u37 H locs hw35 hP hD hS => ?_)
              have hP : va_P D vwCl (xX K r f a g tx) H := hP
              have hD : va_D A (xX K r f a g tx) := hD
              refine lv_if_eq (tgt := 67) hx hb dX0_isBuiltOn_62 (by decide) (fun c38 => ?_) (fun c38 => ?_)
              · have b39 : kb 0 v36 0 := kb_eq c38 kc_0
                obtain ⟨t40, et40⟩ : ∃ z : Int32, z = y1 + Int32.ofInt 1 := ⟨_, rfl⟩
                have qt40 : t40.toInt = y1.toInt + 1 := by rw [et40]; exact km_inc b11 (by decide) (by decide)
                have b41 : kb 1 t40 10 := kb_inc (k := 1) qt40 b11
                refine lv_iinc (v := t40) (lv' := [(2, .int t40), (0, .ref (r 24)), (1, .int y_)]) hx hb dX0_isBuiltOn_67 hl (k := 0) rfl et40.symm (by decide) rfl (fun ls hl => ?_)
                refine lv_goto (tgt := 2) hx hb dX0_isBuiltOn_70 (by decide) ?_
                exact ihlp2 (nn + 1) _ _ _ t40 (km_up hmlp2 qt40) (kb_w b41 (by decide) (by decide)) (by have w1 := hvlp2_0; have w2 := qt40; omega) (fun q hq => by by_cases c : q = nn; (rw [c]; exact (fun w9 => (tcB_n (fun w8 => c30 (by rw [(show t26 = k (0 + nn) from kvt26.trans (congrArg k (by rw [cl_nat hvlp2_0]))), (show t28 = k (23 + nn) from kvt28.trans (congrArg k (by rw [cl_nat hvlp2_0])))]; exact w8)) (by by_cases w7 : 0 < oth k (-1) y1 (kBn k); (exact absurd ((hw35.2.trans (if_pos w7)).symm.trans c38) (by decide +kernel)); (rw [hnn] at w7; omega))) w9.2)); (exact hvlp2_1 q (by omega))) ((by have w1 := hvlp2_0; have w2 := kc_nle c8; have w3 := kvit5; have w4 := (kPn_b hkk).2; omega)) hP hD hS (lv_sub hl [0, 1, 2] rfl)
              · have b42 : kb 1 v36 1 := kr_nel c38 hw35.1 kc_0 (by decide)
                refine lv_iconst (v := 1) hx hb dX0_isBuiltOn_65 (by decide) ?_
                exact kI_ret (v := 1) hx hb hr hlocks (by decide +kernel) hK hS dX0_isBuiltOn_66 () hP hD ⟨(kb_w kc_1 (by decide) (by decide)), (Or.inr ⟨rfl, nn, (by have w1 := hvlp2_0; have w2 := kc_nle c8; have w3 := kvit5; have w4 := (kPn_b hkk).2; omega : nn < kPn k), ((show (k (33 + nn) >>> (y_ &&& 31)) &&& 1 = t19 from by rw [et19, et18, kvt16, cl_nat hvlp2_0]).trans c21), (tcB_2 (by by_cases w7 : 0 < oth k (-1) y1 (kBn k); (rw [hnn] at w7; exact w7); (exact absurd (hw35.2.trans (if_neg w7)) c38)))⟩)⟩
  exact lp2 (11) 0 _ _ _ 0 (by have h1 := (kc_0); unfold kb at h1; omega) (kb_w kc_0 (by decide) (by decide)) (by decide +kernel) (fun q h => absurd h (Nat.not_lt_zero q)) (Nat.zero_le _) hP hD hS (lv_sub hl [0, 1, 2] rfl)
set_option maxHeartbeats 4000000 in
set_option maxRecDepth 100000 in
theorem z_razePart  (l : Launch) {D : va_G} {K : Nat → ClassId} (r : Nat → Nat) (f : Nat → Int32) (a : Nat → Nat → Int32) (g : xG) (tx tt : va_W) (hT : ∀ c ∈ tt, c ∈ tx) (hI : xI f a) (hG : gOK K g.2 tt) (x : Int32)  (k : Nat → Int32) (hVw : sV 32 2 f a k) (hkk : kK k) (P : pS) (hp0 : xPs (f 704) (f 705) (a 23) P (kBn k)) : kIG l yX0_razePart (Cond.code yX0_razePart cX0_razePart 2 (some .int) :: kG) (rmD 3 0 0) D K [.ref (r 24), .int x] (xX K r f a g tx) (fun v (u : xS) => kb (-2147483648) v 2147483647 ∧ xI u.1 u.2.1 ∧ gOK K u.2.2.2 tt ∧ xEk ([704, 705], [6, 23], []) f a g u.1 u.2.1 u.2.2 ∧ xDd 32 2 v u.1 u.2.1 (thrF k P x) (kBn k)) (fun u => xX K r u.1 u.2.1 u.2.2 tx) 0 0 := by
  refine kIE.of (cc := cX0_razePart) (maxL := 2) (ret := (some .int)) (by decide) rfl (Nat.le_of_ble_eq_true rfl) ?_
  intro p e s m below meth c A hx hb hr hml hown hts hlocks hnm hK hP hD hS hA hV ls hl
  have hE : xEk ([704, 705], [6, 23], []) f a g f a g := xEk_rf
  have hg : ∀ w ∈ kG, w.before _ s = true := fun w h => hts w (List.mem_cons_of_mem _ h)
  have hown : s.vm.findClass RX0 = some m.cls := hown
  have hl : lv_has ls 2 [(0, .ref (r 24)), (1, .int x)] := hl
  have hk0 : sV 32 2 f a k := hVw
  have hk1 := hp0
  refine lv_aload_n hx hb dX0_razePart_0 rfl (lv_at hl 0 rfl) ?_
  refine va_get (D := D) (ci := 0) (v := .ref (r 1)) (C := RX0) (T := TX0) (N := 2) hx hb hg inC0 hown hK hP 24 rfl rfl 0 (by decide) (hg _ wt1_222) (fun _ h9 => h9) rfl dX0_razePart_1 ?_
  refine lv_iload_n hx hb dX0_razePart_4 rfl (lv_at hl 1 rfl) ?_
  refine kIG.callW (As := [.int x]) (rest := []) ⟨hx, hb, hml, hown, hg⟩ (z_hasPartN l r f a g tx tt hT hI hG x  k hk0 hkk ) (cwV 1 hg (kgV wt4_114 wt3_36 wt3_37 wt1_2 wt3_38) rfl rfl rfl (by decide +kernel) ⟨by decide, by decide⟩) hV hK hP hD hS hA (1) 7 rfl rfl rfl hl.1 rfl (Nat.le_of_ble_eq_true rfl) dX0_razePart_5 ⟨Nat.le_refl _, Nat.le_refl _⟩ (fun v2 u3 H locs hw1 hP hD hS => ?_)
  have hP : va_P D vwCl (xX K r f a g tx) H := hP
  have hD : va_D A (xX K r f a g tx) := hD
  by_cases hh4 : 0 ≤ x.toInt ∧ x.toInt < (k 102).toInt
  · refine k_top (z := 1) (hw1.2.trans (if_pos hh4)) ?_
    have b5 : kb 0 x 9 := ⟨hh4.1, by have w1 := hh4.2; have w2 := (kK_r hkk 102 0 10 (by decide) (by decide)).2; omega⟩
    refine lv_if_ne (tgt := 14) hx hb dX0_razePart_8 (by decide) (fun c6 => ?_) (fun c6 => ?_)
    · refine lv_aload_n hx hb dX0_razePart_14 rfl (lv_at hl 0 rfl) ?_
      refine va_get (D := D) (ci := 0) (v := .ref (r 1)) (C := RX0) (T := TX0) (N := 2) hx hb hg inC0 hown hK hP 24 rfl rfl 0 (by decide) (hg _ wt1_222) (fun _ h9 => h9) rfl dX0_razePart_15 ?_
      refine va_get (D := D) (ci := 7) (v := .ref (r 6)) (C := RX7) (T := TX7) (N := 20) hx hb hg inC7 hown hK hP 1 rfl rfl 5 (by decide) (hg _ wt1_98) (fun _ h9 => h9) rfl dX0_razePart_18 ?_
      refine lv_iload_n hx hb dX0_razePart_21 rfl (lv_at hl 1 rfl) ?_
      refine va_iald hx hb hK hP 6 0 rfl rfl (kb_in b5 (by decide) (by decide)) dX0_razePart_22 ?_
      refine lv_topi (fun t7 et7 => ?_)
      have kvt7 : t7 = k (0 + x.toNatClampNeg) := et7.trans ((sv_left hk0 (kb_clt b5 (by decide) (by decide))))
      have b8 : kb 0 t7 99 := kb_eq et7 (et7 ▸ kb_eq kvt7 (kK_s hkk 0 10 _ _ (by decide) (by decide) (kb_clt b5 (by decide) (by decide))))
      refine lv_if_ne (tgt := 34) hx hb dX0_razePart_23 (by decide) (fun c9 => ?_) (fun c9 => ?_)
      · have b10 : kb 1 t7 99 := kr_nel c9 b8 kc_0 (by decide)
        refine lv_bipush (v := (-3)) hx hb dX0_razePart_34 (by decide) ?_
        exact kI_ret (v := (-3)) hx hb hr hlocks rfl hK hS dX0_razePart_36 (f, a, g) hP hD ⟨(kb_w kc_m3 (by decide) (by decide)), hI, hG, hE, (xDd_e (x := -3) (by unfold thrF; rw [if_pos (okQ_y hh4), if_neg (th_up (fun q => c9 ((show t7 = k (0 + x.toNatClampNeg) from kvt7).trans q)) _)]) (by decide +kernel) hk0 hk1)⟩
      · have b11 : kb 0 t7 0 := kb_eq c9 kc_0
        refine lv_aload_n hx hb dX0_razePart_26 rfl (lv_at hl 0 rfl) ?_
        refine lv_iload_n hx hb dX0_razePart_27 rfl (lv_at hl 1 rfl) ?_
        refine kIG.callW (As := [.int x]) (rest := []) ⟨hx, hb, hml, hown, hg⟩ (z_isBuiltOn l r f a g tx tt hT hI hG x b5 k hk0 hkk ) (cwV 1 hg (kgV wt4_130 wt4_132 wp2_9 wt1_5 wt4_133) rfl rfl rfl (by decide +kernel) ⟨by decide, by decide⟩) hV hK hP hD hS hA (24) 0 rfl rfl rfl hl.1 rfl (Nat.le_of_ble_eq_true rfl) dX0_razePart_28 ⟨Nat.le_refl _, Nat.le_refl _⟩ (fun v13 u14 H locs hw12 hP hD hS => ?_)
        have hP : va_P D vwCl (xX K r f a g tx) H := hP
        have hD : va_D A (xX K r f a g tx) := hD
        refine lv_if_eq (tgt := 37) hx hb dX0_razePart_31 (by decide) (fun c15 => ?_) (fun c15 => ?_)
        · have b16 : kb 0 v13 0 := kb_eq c15 kc_0
          refine lv_aload_n hx hb dX0_razePart_37 rfl (lv_at hl 0 rfl) ?_
          refine va_get (D := D) (ci := 0) (v := .ref (r 22)) (C := RX0) (T := TX0) (N := 2) hx hb hg inC0 hown hK hP 24 rfl rfl 1 (by decide) (hg _ wt1_223) (fun _ h9 => h9) rfl dX0_razePart_38 ?_
          refine lv_iconst (v := 2) hx hb dX0_razePart_41 (by decide) ?_
          refine lv_aload_n hx hb dX0_razePart_42 rfl (lv_at hl 0 rfl) ?_
          refine va_get (D := D) (ci := 0) (v := .ref (r 1)) (C := RX0) (T := TX0) (N := 2) hx hb hg inC0 hown hK hP 24 rfl rfl 0 (by decide) (hg _ wt1_222) (fun _ h9 => h9) rfl dX0_razePart_43 ?_
          refine kVG.callW (As := [.int 2, .ref (r 1)]) (rest := []) ⟨hx, hb, hml, hown, hg⟩ (z_keep l r f a g tx tt hT hI hG 2 (kb_w kc_2 (by decide) (by decide)) k hk0 hkk P hk1) (cwV 2 hg (kgV wt4_117 wt4_118 wt4_119 wt1_4 wt4_120) rfl rfl rfl (by decide +kernel) ⟨by decide, by decide⟩) hV hK hP hD hS hA (22) 2 rfl rfl rfl hl.1 rfl (Nat.le_of_ble_eq_true rfl) dX0_razePart_46 ⟨Nat.le_refl _, Nat.le_refl _⟩ (fun u19 H locs hw17 hP hD hS => ?_)
          obtain ⟨f20, a21, g22⟩ := u19
          have hP : va_P D vwCl (xX K r f20 a21 g22 tx) H := hP
          have hD : va_D A (xX K r f20 a21 g22 tx) := hD
          have hI : xI f20 a21 := hw17.1
          have hG : gOK K g22.2 tt := hw17.2.1
          have eE23 : xEk ([704, 705], [23], []) f a g f20 a21 g22 := hw17.2.2.1
          have hE : xEk ([704, 705], [6, 23], []) f a g f20 a21 g22 := xEk_tr hE (xEk_w (by decide +kernel) eE23)
          have hk0 : sV 32 2 f20 a21 k := (sV_E hk0 eE23 (by decide +kernel) (by decide +kernel))
          have hk1 : xPs (f20 704) (f20 705) (a21 23) (kpP P 2 k) (kBn k) := hw17.2.2.2
          refine lv_aload_n hx hb dX0_razePart_49 rfl (lv_at hl 0 rfl) ?_
          refine va_get (D := D) (ci := 0) (v := .ref (r 1)) (C := RX0) (T := TX0) (N := 2) hx hb hg inC0 hown hK hP 24 rfl rfl 0 (by decide) (hg _ wt1_222) (fun _ h9 => h9) rfl dX0_razePart_50 ?_
          refine va_get (D := D) (ci := 7) (v := .ref (r 6)) (C := RX7) (T := TX7) (N := 20) hx hb hg inC7 hown hK hP 1 rfl rfl 5 (by decide) (hg _ wt1_98) (fun _ h9 => h9) rfl dX0_razePart_53 ?_
          refine lv_iload_n hx hb dX0_razePart_56 rfl (lv_at hl 1 rfl) ?_
          refine lv_aload_n hx hb dX0_razePart_57 rfl (lv_at hl 0 rfl) ?_
          refine va_get (D := D) (ci := 0) (v := .ref (r 1)) (C := RX0) (T := TX0) (N := 2) hx hb hg inC0 hown hK hP 24 rfl rfl 0 (by decide) (hg _ wt1_222) (fun _ h9 => h9) rfl dX0_razePart_58 ?_
          refine va_get (D := D) (ci := 7) (v := .ref (r 2)) (C := RX7) (T := TX7) (N := 20) hx hb hg inC7 hown hK hP 1 rfl rfl 1 (by decide) (hg _ wt1_88) (fun _ h9 => h9) rfl dX0_razePart_61 ?_
          refine lv_iload_n hx hb dX0_razePart_64 rfl (lv_at hl 1 rfl) ?_
          refine va_iald hx hb hK hP 2 0 rfl rfl (kb_in b5 (by decide) (by decide)) dX0_razePart_65 ?_
          refine lv_topi (fun t24 et24 => ?_)
          have kvt24 : t24 = k (23 + x.toNatClampNeg) := et24.trans ((sv_work hk0 (kb_clt b5 (by decide) (by decide))))
          have b25 : kb 0 t24 99 := kb_eq et24 (et24 ▸ kb_eq kvt24 (kK_s hkk 23 10 _ _ (by decide) (by decide) (kb_clt b5 (by decide) (by decide))))
          have hSv0 := hk0
          have hkP := hk1
          have hk0 := hkP
          refine va_iast hx hb hK hP hD hS 6 0 rfl rfl (kb_in b5 (by decide) (by decide)) dX0_razePart_66 (fun H locs hP hD hS => ?_)
          have hP : va_P D vwCl (xX K r f20 (va_up a21 6 (upd (a21 6) x.toNatClampNeg t24)) g22 tx) H := hP
          have hD : va_D A (xX K r f20 (va_up a21 6 (upd (a21 6) x.toNatClampNeg t24)) g22 tx) := hD
          refine k_gen (P := fun z => va_P D vwCl (xX K r f20 z g22 tx) H ∧ va_D A (xX K r f20 z g22 tx) ∧ (xI f20 z) ∧ (gOK K g22.2 tt) ∧ (xEk ([704, 705], [6, 23], []) f a g f20 z g22) ∧ (xPs (f20 704) (f20 705) (z 23) (kpP P 2 k) (kBn k))) (va_up a21 6 (upd (a21 6) x.toNatClampNeg t24)) ⟨hP, hD, (xI_a hI (by decide)), hG, (xEk_a hE rfl), hk0⟩ (fun a_26 ea_26 hq => ?_)
          obtain ⟨hP, hD, hI, hG, hE, hk0⟩ := hq
          refine lv_aload_n hx hb dX0_razePart_67 rfl (lv_at hl 0 rfl) ?_
          refine va_get (D := D) (ci := 0) (v := .ref (r 1)) (C := RX0) (T := TX0) (N := 2) hx hb hg inC0 hown hK hP 24 rfl rfl 0 (by decide) (hg _ wt1_222) (fun _ h9 => h9) rfl dX0_razePart_68 ?_
          refine va_get (D := D) (ci := 7) (v := .ref (r 2)) (C := RX7) (T := TX7) (N := 20) hx hb hg inC7 hown hK hP 1 rfl rfl 1 (by decide) (hg _ wt1_88) (fun _ h9 => h9) rfl dX0_razePart_71 ?_
          refine lv_iload_n hx hb dX0_razePart_74 rfl (lv_at hl 1 rfl) ?_
          refine va_iald hx hb hK hP 2 0 rfl rfl (kb_in b5 (by decide) (by decide)) dX0_razePart_75 ?_
          refine k_top (z := t24) ((show a_26 2 x.toNatClampNeg = a21 2 x.toNatClampNeg from by rw [← ea_26]; rfl).trans et24.symm) ?_
          exact kI_ret (v := t24) hx hb hr hlocks rfl hK hS dX0_razePart_76 (f20, a_26, g22) hP hD ⟨(kb_w b25 (by decide) (by decide)), hI, hG, hE, (xDd_e (by obtain ⟨-, w1⟩ | ⟨w1, -⟩ := hw12.2; (unfold thrF; rw [if_pos (okQ_y hh4), if_pos (th_all ((show t7 = k (0 + x.toNatClampNeg) from kvt7).symm.trans c9) _ w1)]); (exact absurd (c15.symm.trans w1) (by decide +kernel))) (congrArg Int32.toInt ((et24.trans (congrFun (eE23.2.1 2 rfl) (x.toNatClampNeg))).trans (sv_work hVw (kb_clt b5 (by decide) (by decide))))) (by rw [← (show t24 = k (23 + x.toNatClampNeg) from (et24.trans (congrFun (eE23.2.1 2 rfl) (x.toNatClampNeg))).trans (sv_work hVw (kb_clt b5 (by decide) (by decide))))]; exact sV_lf hVw (hE.1 32 rfl) (hE.1 38 rfl) (hE.1 44 rfl) (hE.1 49 rfl) (hE.1 50 rfl) (fun j hj hn => by rcases (show j = 0 ∨ j = 1 ∨ j = 2 ∨ j = 3 ∨ j = 5 ∨ j = 6 ∨ j = 7 ∨ j = 8 ∨ j = 9 ∨ j = 10 ∨ j = 11 ∨ j = 12 by omega) with e | e | e | e | e | e | e | e | e | e | e | e <;> (subst e; exact hE.2.1 _ rfl)) ((show a_26 6 = upd (a21 6) x.toNatClampNeg t24 from by rw [← ea_26]; rfl).trans (congrArg (fun zz_ => upd zz_ x.toNatClampNeg t24) (eE23.2.1 6 rfl))) (kb_clt b5 (by decide) (by decide))) hk0)⟩
        · have b27 : kb 1 v13 1 := kr_nel c15 hw12.1 kc_0 (by decide)
          refine lv_bipush (v := (-3)) hx hb dX0_razePart_34 (by decide) ?_
          exact kI_ret (v := (-3)) hx hb hr hlocks rfl hK hS dX0_razePart_36 (f, a, g) hP hD ⟨(kb_w kc_m3 (by decide) (by decide)), hI, hG, hE, (xDd_e (x := -3) (by obtain ⟨w1, -⟩ | ⟨-, qq, w1, w2, w3⟩ := hw12.2; (exact absurd w1 c15); (unfold thrF; rw [if_pos (okQ_y hh4), if_neg (th_ex w2 w3 _ w1)])) (by decide +kernel) hk0 hk1)⟩
    · exact kb_dj c6 kc_1 kc_0 (by decide)
  · refine k_top (z := 0) (hw1.2.trans (if_neg hh4)) ?_
    refine lv_if_ne (tgt := 14) hx hb dX0_razePart_8 (by decide) (fun c28 => ?_) (fun c28 => ?_)
    · exact kb_nsame c28 kc_0 kc_0
    · refine lv_bipush (v := (-2)) hx hb dX0_razePart_11 (by decide) ?_
      exact kI_ret (v := (-2)) hx hb hr hlocks rfl hK hS dX0_razePart_13 (f, a, g) hP hD ⟨(kb_w kc_m2 (by decide) (by decide)), hI, hG, hE, (xDd_e (x := -2) (by unfold thrF; rw [if_neg (okQ_n hh4)]) (by decide +kernel) hk0 hk1)⟩
set_option maxHeartbeats 4000000 in
set_option maxRecDepth 100000 in
theorem z_passTick  (l : Launch) {D : va_G} {K : Nat → ClassId} (r : Nat → Nat) (f : Nat → Int32) (a : Nat → Nat → Int32) (g : xG) (tx tt : va_W) (hT : ∀ c ∈ tt, c ∈ tx) (hI : xI f a) (hG : gOK K g.2 tt)   (k : Nat → Int32) (hVw : sV 32 2 f a k) (hkk : kK k) (DD : Nat → tE) (hL : lC K tt (g.2 15) k DD) (P : pS) (hp0 : xPs (f 704) (f 705) (a 23) P (kBn k)) : kIG l yX0_passTick (Cond.code yX0_passTick cX0_passTick 1 (some .int) :: kG) (rmD 5 0 0) D K [.ref (r 24)] (xX K r f a g tx) (fun v (u : xS) => kb (-2147483648) v 2147483647 ∧ xI u.1 u.2.1 ∧ gOK K u.2.2.2 tt ∧ xEk ([704, 705], [6, 9, 10, 11, 19, 20, 23], []) f a g u.1 u.2.1 u.2.2 ∧ xDd 32 2 v u.1 u.2.1 (ticF DD k P) (kBn k)) (fun u => xX K r u.1 u.2.1 u.2.2 tx) 0 0 := by
  refine kIE.of (cc := cX0_passTick) (maxL := 1) (ret := (some .int)) (by decide) rfl (Nat.le_of_ble_eq_true rfl) ?_
  intro p e s m below meth c A hx hb hr hml hown hts hlocks hnm hK hP hD hS hA hV ls hl
  have hE : xEk ([704, 705], [6, 9, 10, 11, 19, 20, 23], []) f a g f a g := xEk_rf
  have hg : ∀ w ∈ kG, w.before _ s = true := fun w h => hts w (List.mem_cons_of_mem _ h)
  have hown : s.vm.findClass RX0 = some m.cls := hown
  have hl : lv_has ls 1 [(0, .ref (r 24))] := hl
  have hk0 : sV 32 2 f a k := hVw
  have hk1 := hp0
  refine lv_aload_n hx hb dX0_passTick_0 rfl (lv_at hl 0 rfl) ?_
  refine va_get (D := D) (ci := 0) (v := .ref (r 1)) (C := RX0) (T := TX0) (N := 2) hx hb hg inC0 hown hK hP 24 rfl rfl 0 (by decide) (hg _ wt1_222) (fun _ h9 => h9) rfl dX0_passTick_1 ?_
  refine va_get (D := D) (ci := 7) (v := .ref (r 11)) (C := RX7) (T := TX7) (N := 20) hx hb hg inC7 hown hK hP 1 rfl rfl 11 (by decide) (hg _ wt1_131) (fun _ h9 => h9) rfl dX0_passTick_4 ?_
  refine lv_iconst (v := 0) hx hb dX0_passTick_7 (by decide) ?_
  refine va_iald hx hb hK hP 11 0 rfl rfl (kb_in kc_0 (by decide) (by decide)) dX0_passTick_8 ?_
  refine lv_topi (fun t1 et1 => ?_)
  rw [cl_0] at et1
  have kvt1 : t1 = k 22 := et1.trans ((sv_hour hk0))
  have b2 : kb 0 t1 1000000 := kb_eq et1 (et1 ▸ kb_eq kvt1 (kK_r hkk 22 _ _ (by decide) (by decide)))
  refine lv_sipush (v := 999) hx hb dX0_passTick_9 (by decide) ?_
  refine lv_icmp_lt (tgt := 18) hx hb dX0_passTick_12 (by decide) (fun c3 => ?_) (fun c3 => ?_)
  · have h4 := (kc_lt c3)
    have b5 : kb 0 t1 998 := kr_lt1 h4 b2 kc_999 (by decide)
    have hh22 : (k 22).toInt ≤ 999 := by have w1 := congrArg Int32.toInt kvt1; have w3 : (999 : Int32).toInt = 999 := (by decide +kernel); have w2 := kc_lt c3; omega
    refine lv_aload_n hx hb dX0_passTick_18 rfl (lv_at hl 0 rfl) ?_
    refine va_get (D := D) (ci := 0) (v := .ref (r 22)) (C := RX0) (T := TX0) (N := 2) hx hb hg inC0 hown hK hP 24 rfl rfl 1 (by decide) (hg _ wt1_223) (fun _ h9 => h9) rfl dX0_passTick_19 ?_
    refine lv_iconst (v := 3) hx hb dX0_passTick_22 (by decide) ?_
    refine lv_aload_n hx hb dX0_passTick_23 rfl (lv_at hl 0 rfl) ?_
    refine va_get (D := D) (ci := 0) (v := .ref (r 1)) (C := RX0) (T := TX0) (N := 2) hx hb hg inC0 hown hK hP 24 rfl rfl 0 (by decide) (hg _ wt1_222) (fun _ h9 => h9) rfl dX0_passTick_24 ?_
    refine kVG.callW (As := [.int 3, .ref (r 1)]) (rest := []) ⟨hx, hb, hml, hown, hg⟩ (z_keep l r f a g tx tt hT hI hG 3 (kb_w kc_3 (by decide) (by decide)) k hk0 hkk P hk1) (cwV 2 hg (kgV wt4_117 wt4_118 wt4_119 wt1_4 wt4_120) rfl rfl rfl (by decide +kernel) ⟨by decide, by decide⟩) hV hK hP hD hS hA (22) 2 rfl rfl rfl hl.1 rfl (Nat.le_of_ble_eq_true rfl) dX0_passTick_27 ⟨Nat.le_refl _, Nat.le_refl _⟩ (fun u8 H locs hw6 hP hD hS => ?_)
    obtain ⟨f9, a10, g11⟩ := u8
    have hP : va_P D vwCl (xX K r f9 a10 g11 tx) H := hP
    have hD : va_D A (xX K r f9 a10 g11 tx) := hD
    have hI : xI f9 a10 := hw6.1
    have hG : gOK K g11.2 tt := hw6.2.1
    have eE12 : xEk ([704, 705], [23], []) f a g f9 a10 g11 := hw6.2.2.1
    have hE : xEk ([704, 705], [6, 9, 10, 11, 19, 20, 23], []) f a g f9 a10 g11 := xEk_tr hE (xEk_w (by decide +kernel) eE12)
    have hk0 : sV 32 2 f9 a10 k := (sV_E hk0 eE12 (by decide +kernel) (by decide +kernel))
    have hk1 : xPs (f9 704) (f9 705) (a10 23) (kpP P 3 k) (kBn k) := hw6.2.2.2
    refine lv_aload_n hx hb dX0_passTick_30 rfl (lv_at hl 0 rfl) ?_
    refine va_get (D := D) (ci := 0) (v := .ref (r 1)) (C := RX0) (T := TX0) (N := 2) hx hb hg inC0 hown hK hP 24 rfl rfl 0 (by decide) (hg _ wt1_222) (fun _ h9 => h9) rfl dX0_passTick_31 ?_
    have hkP := hk1
    refine kIG.callW (As := []) (rest := []) ⟨hx, hb, hml, hown, hg⟩ (z_workOneTickN l r f9 a10 g11 tx tt hT hI hG   k hk0 hkk DD (lC_cg hL (hE.2.2 15 rfl)) (by omega)) (cwV 0 hg (kgV wt4_142 wt4_143 wt4_144 wt1_2 wt4_145) rfl rfl rfl (by decide +kernel) ⟨by decide, by decide⟩) hV hK hP hD hS hA (1) 7 rfl rfl rfl hl.1 rfl (Nat.le_of_ble_eq_true rfl) dX0_passTick_34 ⟨Nat.le_refl _, Nat.le_refl _⟩ (fun v14 u15 H locs hw13 hP hD hS => ?_)
    obtain ⟨f16, a17, g18⟩ := u15
    have hP : va_P D vwCl (xX K r f16 a17 g18 tx) H := hP
    have hD : va_D A (xX K r f16 a17 g18 tx) := hD
    have hI : xI f16 a17 := hw13.2.1
    have hG : gOK K g18.2 tt := hw13.2.2.1
    have eE19 : xEk ([], [6, 9, 10, 11, 19, 20], []) f9 a10 g11 f16 a17 g18 := hw13.2.2.2.1
    have hE : xEk ([704, 705], [6, 9, 10, 11, 19, 20, 23], []) f a g f16 a17 g18 := xEk_tr hE (xEk_w (by decide +kernel) eE19)
    have hk0 : sV 32 2 f16 a17 (tkF DD k) := hw13.2.2.2.2.1
    have hk1 : xPs (f16 704) (f16 705) (a17 23) (kpP P 3 k) (kBn k) := (xP_cg hk1 (eE19.1 704 rfl) (eE19.1 705 rfl) (eE19.2.1 23 rfl))
    exact kI_ret (v := v14) hx hb hr hlocks rfl hK hS dX0_passTick_37 (f16, a17, g18) hP hD ⟨(kb_w hw13.1 (by decide) (by decide)), hI, hG, hE, (xDd_e (by unfold ticF; rw [if_neg (fun q => by have w1 := congrArg Int32.toInt kvt1; have w3 : (999 : Int32).toInt = 999 := (by decide +kernel); have w2 := kc_lt c3; omega)]) hw13.2.2.2.2.2 hk0 hk1)⟩
  · have h20 := (kc_nlt c3)
    have b21 : kb 999 t1 1000000 := kr_le2 h20 kc_999 b2
    refine lv_bipush (v := (-3)) hx hb dX0_passTick_15 (by decide) ?_
    exact kI_ret (v := (-3)) hx hb hr hlocks rfl hK hS dX0_passTick_17 (f, a, g) hP hD ⟨(kb_w kc_m3 (by decide) (by decide)), hI, hG, hE, (xDd_e (x := -3) (by unfold ticF; rw [if_pos (by have w1 := congrArg Int32.toInt kvt1; have w3 : (999 : Int32).toInt = 999 := (by decide +kernel); have w2 := kc_nlt c3; omega)]) (by decide +kernel) hk0 hk1)⟩
