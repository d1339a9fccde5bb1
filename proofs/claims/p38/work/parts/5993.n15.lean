/-! what a call leaves: its answer, the state, what can be undone, the status, the refusals -/
def mTp (v : Int32) (f : Nat → Int32) (a : Nat → Nat → Int32) (a1 : Nat → Int32) (R : dR) (b : Bool) : Prop := mDd v f a R ∧ f 0 = (if b = true then v else 0) ∧ a 1 = (if b = true then rfS R.1 a1 else a1)
theorem mTp_i {v : Int32} {f : Nat → Int32} {a : Nat → Nat → Int32} {a1 : Nat → Int32} {R : dR} {b : Bool} (h : mDd v f a R) (h0 : f 0 = (if b = true then v else 0)) (h1 : a 1 = (if b = true then rfS v.toInt a1 else a1)) : mTp v f a a1 R b := ⟨h, h0, by rw [← h.1]; exact h1⟩
theorem dec_lt {α : Type} {v : Int32} {x : Int} {p q : α} (h : v.toInt = x) : (if v.toInt < 0 then p else q) = (if decide (x < 0) = true then p else q) := by
  rw [← h]
  by_cases c : v.toInt < 0
  · rw [if_pos c, if_pos (decide_eq_true c)]
  · rw [if_neg c, if_neg (fun z => c (of_decide_eq_true z))]
/-- more is kept: nothing can be undone any more -/
def noP (P : pS) : pS := (0, P.2)
theorem mP_no {u : Int32} {R : Nat → Int32} {P : pS} (h : u = 0) : mPs u R (noP P) := ⟨by rw [h]; show (0 : Int32).toInt = ((0 : Nat) : Int); decide +kernel, Nat.zero_le 16, fun j hj => absurd hj (Nat.not_lt_zero j)⟩
def prtK (k : Nat → Int32) (n : Nat) (x y z w : Int32) : Nat → Int32 := fun i => if i = 102 then k 102 + 1 else if i = 0 + n then x else if i = 53 + n then w else if i = 43 + n then z else if i = 33 + n then y else if i = 23 + n then x else k i
def bldK (k : Nat → Int32) (n : Nat) (x y : Int32) : Nat → Int32 := fun i => if i = 103 then k 103 + 1 else if i = 16 + n then -1 else if i = 10 + n then 0 else if i = 69 + n then y else if i = 63 + n then x else k i
def sgtK (k : Nat → Int32) (n : Nat) (x y z : Int32) : Nat → Int32 := fun i => if i = 104 then k 104 + 1 else if i = 77 + 3 * n then z else if i = 76 + 3 * n then y else if i = 75 + 3 * n then x else k i
def trI (x : Int32) : Nat := if x = 0 then 22 else 98 + x.toInt.toNat
/-- the answer, the status, the refusals; the state: as it was, or k' -/
def mTe (v : Int32) (f : Nat → Int32) (a : Nat → Nat → Int32) (a1 k : Nat → Int32) (P : pS) (k' : Nat → Int32) (P' : pS) : Prop := (v.toInt < 0 ∧ f 0 = v ∧ a 1 = rfS v.toInt a1 ∧ a 2 = k ∧ mPs (f 33) (a 31) P) ∨ (¬ v.toInt < 0 ∧ f 0 = 0 ∧ a 1 = a1 ∧ a 2 = k' ∧ mPs (f 33) (a 31) P')
section KE
variable {k R : Nat → Int32} {n i1 i2 i3 i4 i5 : Nat} {x y z w v : Int32}
theorem prtK_e (e : R = upd (upd (upd (upd (upd (upd k i1 x) i2 y) i3 z) i4 w) i5 x) 102 v) (h1 : i1 = 23 + n) (h2 : i2 = 33 + n) (h3 : i3 = 43 + n) (h4 : i4 = 53 + n) (h5 : i5 = 0 + n) (hv : v = k 102 + 1) : R = prtK k n x y z w := by
  subst h1 h2 h3 h4 h5 hv
  rw [e]
  funext i
  unfold prtK
  by_cases c0 : i = 102
  · rw [c0, pk_us, if_pos rfl]
  · rw [pk_un c0, if_neg c0]
    by_cases c1 : i = 0 + n
    · rw [c1, pk_us, if_pos rfl]
    · rw [pk_un c1, if_neg c1]
      by_cases c2 : i = 53 + n
      · rw [c2, pk_us, if_pos rfl]
      · rw [pk_un c2, if_neg c2]
        by_cases c3 : i = 43 + n
        · rw [c3, pk_us, if_pos rfl]
        · rw [pk_un c3, if_neg c3]
          by_cases c4 : i = 33 + n
          · rw [c4, pk_us, if_pos rfl]
          · rw [pk_un c4, if_neg c4]
            by_cases c5 : i = 23 + n
            · rw [c5, pk_us, if_pos rfl]
            · rw [pk_un c5, if_neg c5]
theorem bldK_e (e : R = upd (upd (upd (upd (upd k i1 x) i2 y) i3 0) i4 (-1)) 103 v) (h1 : i1 = 63 + n) (h2 : i2 = 69 + n) (h3 : i3 = 10 + n) (h4 : i4 = 16 + n) (hv : v = k 103 + 1) : R = bldK k n x y := by
  subst h1 h2 h3 h4 hv
  rw [e]
  funext i
  unfold bldK
  by_cases c0 : i = 103
  · rw [c0, pk_us, if_pos rfl]
  · rw [pk_un c0, if_neg c0]
    by_cases c1 : i = 16 + n
    · rw [c1, pk_us, if_pos rfl]
    · rw [pk_un c1, if_neg c1]
      by_cases c2 : i = 10 + n
      · rw [c2, pk_us, if_pos rfl]
      · rw [pk_un c2, if_neg c2]
        by_cases c3 : i = 69 + n
        · rw [c3, pk_us, if_pos rfl]
        · rw [pk_un c3, if_neg c3]
          by_cases c4 : i = 63 + n
          · rw [c4, pk_us, if_pos rfl]
          · rw [pk_un c4, if_neg c4]
theorem sgtK_e (e : R = upd (upd (upd (upd k i1 x) i2 y) i3 z) 104 v) (h1 : i1 = 75 + 3 * n) (h2 : i2 = 76 + 3 * n) (h3 : i3 = 77 + 3 * n) (hv : v = k 104 + 1) : R = sgtK k n x y z := by
  subst h1 h2 h3 hv
  rw [e]
  funext i
  unfold sgtK
  by_cases c0 : i = 104
  · rw [c0, pk_us, if_pos rfl]
  · rw [pk_un c0, if_neg c0]
    by_cases c1 : i = 77 + 3 * n
    · rw [c1, pk_us, if_pos rfl]
    · rw [pk_un c1, if_neg c1]
      by_cases c2 : i = 76 + 3 * n
      · rw [c2, pk_us, if_pos rfl]
      · rw [pk_un c2, if_neg c2]
        by_cases c3 : i = 75 + 3 * n
        · rw [c3, pk_us, if_pos rfl]
        · rw [pk_un c3, if_neg c3]
end KE
def trO (x y : Int32) : Prop := (x = 0 ∧ 0 ≤ y.toInt ∧ y.toInt ≤ 999) ∨ (x = 1 ∧ 1 ≤ y.toInt ∧ y.toInt ≤ 99) ∨ (x = 2 ∧ 0 ≤ y.toInt ∧ y.toInt ≤ 10) ∨ (x = 3 ∧ 0 ≤ y.toInt ∧ y.toInt ≤ 9)
set_option maxHeartbeats 4000000 in
set_option maxRecDepth 100000 in
theorem n_goodOr  (l : Launch) {D : va_G} {K : Nat → ClassId} (o : Nat) (r : Nat → Nat) (f : Nat → Int32) (a : Nat → Nat → Int32) (g : Nat → Int64) (hI : mI f a) (x : Int32) (bx : kb (-6) x 2147483647)   : kI l yX12_goodOr (Cond.code yX12_goodOr cX12_goodOr 2 (some .int) :: kG) (rmD 2 0 0) D (tysK K) [.ref o, .int x] (mW K o r f a g) (fun v (u : mS) => kb (-2147483648) v 2147483647 ∧ mI u.1 u.2.1 ∧ mE (XR []) f a u.1 u.2.1 ∧ v = x ∧ u.1 0 = (if x.toInt < 0 then x else 0) ∧ u.2.1 1 = (if x.toInt < 0 then rfS x.toInt (a 1) else a 1) ∧ mZ [0] [1] f a u.1 u.2.1) (fun u => mW K o r u.1 u.2.1 u.2.2) 0 0 := by
  refine kI.of (cc := cX12_goodOr) (maxL := 2) (ret := (some .int)) (by decide) rfl (Nat.le_of_ble_eq_true rfl) ?_
  intro p e s m below meth c A hx hb hr hml hown hts hlocks hnm hK hP hD hS hA ls hl
  have hE : mE (XR []) f a f a := mE_rf
  have hZ : mZ [0] [1] f a f a := mZ_rf
  have hg : ∀ w ∈ kG, w.before _ s = true := fun w h => hts w (List.mem_cons_of_mem _ h)
  have hown : s.vm.findClass RX12 = some m.cls := hown
  have hl : lv_has ls 2 [(0, .ref o), (1, .int x)] := hl
  refine lv_iload_n hx hb dX12_goodOr_0 rfl (lv_at hl 1 rfl) ?_
  refine lv_if_ge (tgt := 12) hx hb dX12_goodOr_1 (by decide) (fun c1 => ?_) (fun c1 => ?_)
  · have h2 := (kc_le c1)
    have b3 : kb 0 x 2147483647 := kr_le2 h2 kc_0 bx
    refine lv_aload_n hx hb dX12_goodOr_12 rfl (lv_at hl 0 rfl) ?_
    refine lv_iload_n hx hb dX12_goodOr_13 rfl (lv_at hl 1 rfl) ?_
    refine kI.callV (As := [.int x]) (rest := []) ⟨hx, hb, hml, hown, hg⟩ (n_good l o r f a g hI x  ) (cwV 1 hg (kgV wt6_76 wt6_78 wp3_6 wt1_14 wt6_79) rfl rfl rfl (by decide +kernel) ⟨by decide, by decide⟩) hK hP hD hS hA mIs [] rfl (wr := []) rfl rfl rfl (fun i h => by cases h) 0 12 rfl rfl rfl hl.1 rfl (Nat.le_of_ble_eq_true rfl) dX12_goodOr_14 ⟨Nat.le_refl _, Nat.le_refl _⟩ (fun v5 u6 H locs hw4 hP hD hS => ?_)
    obtain ⟨f7, a8, g9⟩ := u6
    have hP : va_P D vwCl (mW K o r f7 a8 g9) H := hP
    have hD : va_D A (mW K o r f7 a8 g9) := hD
    have hI : mI f7 a8 := hw4.2.1
    have hE : mE (XR []) f a f7 a8 := mE_tr hE hw4.2.2.1
    have eE10 : mE (XR []) f a f7 a8 := hw4.2.2.1
    have eZ11 : mZ [0] [] f a f7 a8 := hw4.2.2.2.2.2
    have hZ : mZ [0] [1] f a f7 a8 := mZ_tr hZ (mZ_w (by decide) (by decide) eZ11)
    refine k_top (z := x) hw4.2.2.2.1 ?_
    exact kI_ret (v := x) hx hb hr hlocks rfl hK hS dX12_goodOr_17 (f7, a8, g9) hP hD ⟨(kb_w b3 (by decide) (by decide)), hI, hE, rfl, (by rw [if_neg (by have w3 : (0 : Int32).toInt = 0 := (by decide +kernel); have w2 := kc_le c1; omega)]; exact hw4.2.2.2.2.1), (by rw [if_neg (by have w3 : (0 : Int32).toInt = 0 := (by decide +kernel); have w2 := kc_le c1; omega)]; exact (eZ11.2 1 rfl)), hZ⟩
  · have h12 := (kc_nle c1)
    have b13 : kb (-6) x (-1) := kr_lt1 h12 bx kc_0 (by decide)
    refine lv_aload_n hx hb dX12_goodOr_4 rfl (lv_at hl 0 rfl) ?_
    refine lv_iload_n hx hb dX12_goodOr_5 rfl (lv_at hl 1 rfl) ?_
    refine kI.callV (As := [.int x]) (rest := []) ⟨hx, hb, hml, hown, hg⟩ (n_refuses l o r f a g hI x b13 ) (cwV 1 hg (kgV wt6_72 wt6_74 wp3_5 wt1_14 wt6_75) rfl rfl rfl (by decide +kernel) ⟨by decide, by decide⟩) hK hP hD hS hA mIs [] rfl (wr := []) rfl rfl rfl (fun i h => by cases h) 0 12 rfl rfl rfl hl.1 rfl (Nat.le_of_ble_eq_true rfl) dX12_goodOr_6 ⟨Nat.le_refl _, Nat.le_refl _⟩ (fun v15 u16 H locs hw14 hP hD hS => ?_)
    obtain ⟨f17, a18, g19⟩ := u16
    have hP : va_P D vwCl (mW K o r f17 a18 g19) H := hP
    have hD : va_D A (mW K o r f17 a18 g19) := hD
    have hI : mI f17 a18 := hw14.2.1
    have hE : mE (XR []) f a f17 a18 := mE_tr hE hw14.2.2.1
    have eE20 : mE (XR []) f a f17 a18 := hw14.2.2.1
    have eZ21 : mZ [0] [1] f a f17 a18 := hw14.2.2.2.2.2.2
    have hZ : mZ [0] [1] f a f17 a18 := mZ_tr hZ (mZ_w (by decide) (by decide) eZ21)
    refine k_top (z := x) hw14.2.2.2.1 ?_
    refine lv_goto (tgt := 17) hx hb dX12_goodOr_9 (by decide) ?_
    exact kI_ret (v := x) hx hb hr hlocks rfl hK hS dX12_goodOr_17 (f17, a18, g19) hP hD ⟨(kb_w b13 (by decide) (by decide)), hI, hE, rfl, (by rw [if_pos (by have w3 : (0 : Int32).toInt = 0 := (by decide +kernel); have w2 := kc_nle c1; omega)]; exact hw14.2.2.2.2.1), (by rw [if_pos (by have w3 : (0 : Int32).toInt = 0 := (by decide +kernel); have w2 := kc_nle c1; omega)]; exact hw14.2.2.2.2.2.1), hZ⟩
set_option maxHeartbeats 4000000 in
set_option maxRecDepth 100000 in
theorem n_settled  (l : Launch) {D : va_G} {K : Nat → ClassId} (o : Nat) (r : Nat → Nat) (f : Nat → Int32) (a : Nat → Nat → Int32) (g : Nat → Int64) (hI : mI f a) (x : Int32)    : kI l yX12_settled (Cond.code yX12_settled cX12_settled 2 (some .int) :: kG) (rmD 2 0 0) D (tysK K) [.ref o, .int x] (mW K o r f a g) (fun v (u : mS) => kb (-2147483648) v 2147483647 ∧ mI u.1 u.2.1 ∧ mE (XR []) f a u.1 u.2.1 ∧ v = x ∧ u.1 0 = 0 ∧ u.1 33 = 0 ∧ mZ [0, 33] [] f a u.1 u.2.1) (fun u => mW K o r u.1 u.2.1 u.2.2) 0 0 := by
  refine kI.of (cc := cX12_settled) (maxL := 2) (ret := (some .int)) (by decide) rfl (Nat.le_of_ble_eq_true rfl) ?_
  intro p e s m below meth c A hx hb hr hml hown hts hlocks hnm hK hP hD hS hA ls hl
  have hE : mE (XR []) f a f a := mE_rf
  have hZ : mZ [0, 33] [] f a f a := mZ_rf
  have hg : ∀ w ∈ kG, w.before _ s = true := fun w h => hts w (List.mem_cons_of_mem _ h)
  have hown : s.vm.findClass RX12 = some m.cls := hown
  have hl : lv_has ls 2 [(0, .ref o), (1, .int x)] := hl
  refine lv_aload_n hx hb dX12_settled_0 rfl (lv_at hl 0 rfl) ?_
  refine lv_iconst (v := 0) hx hb dX12_settled_1 (by decide) ?_
  refine va_put (D := D) (ci := 12) (v := .int 0) (ty := .int) (C := RX12) (T := TX12) (N := 48) hx hb hg inC12 tyX12 tyX12_ok nmX12 hown hK hP hD hS 0 rfl rfl 33 (by decide) (hg _ wt5_193) (fun _ h9 => h9) rfl (by decide +kernel) rfl rfl (Nat.le_of_ble_eq_true rfl) dX12_settled_2 (fun H locs hP hD hS => ?_)
  have hP : va_P D vwCl (mW K o r (upd f 33 0) a g) H := hP
  have hD : va_D A (mW K o r (upd f 33 0) a g) := hD
  refine k_gen (P := fun z => va_P D vwCl (mW K o r z a g) H ∧ va_D A (mW K o r z a g) ∧ (mI z a) ∧ (mE (XR []) f a z a) ∧ (mZ [0, 33] [] f a z a)) (upd f 33 0) ⟨hP, hD, (mI_f hI (fI_st hI.1 33 kc_0 (by decide) (by decide))), (mE_f hE (by decide)), (mZ_f hZ rfl)⟩ (fun f_1 ef_1 hq => ?_)
  obtain ⟨hP, hD, hI, hE, hZ⟩ := hq
  refine lv_aload_n hx hb dX12_settled_5 rfl (lv_at hl 0 rfl) ?_
  refine lv_iload_n hx hb dX12_settled_6 rfl (lv_at hl 1 rfl) ?_
  refine kI.callV (As := [.int x]) (rest := []) ⟨hx, hb, hml, hown, hg⟩ (n_good l o r f_1 a g hI x  ) (cwV 1 hg (kgV wt6_76 wt6_78 wp3_6 wt1_14 wt6_79) rfl rfl rfl (by decide +kernel) ⟨by decide, by decide⟩) hK hP hD hS hA mIs [] rfl (wr := []) rfl rfl rfl (fun i h => by cases h) 0 12 rfl rfl rfl hl.1 rfl (Nat.le_of_ble_eq_true rfl) dX12_settled_7 ⟨Nat.le_refl _, Nat.le_refl _⟩ (fun v3 u4 H locs hw2 hP hD hS => ?_)
  obtain ⟨f5, a6, g7⟩ := u4
  have hP : va_P D vwCl (mW K o r f5 a6 g7) H := hP
  have hD : va_D A (mW K o r f5 a6 g7) := hD
  have hI : mI f5 a6 := hw2.2.1
  have hE : mE (XR []) f a f5 a6 := mE_tr hE hw2.2.2.1
  have eE8 : mE (XR []) f_1 a f5 a6 := hw2.2.2.1
  have eZ9 : mZ [0] [] f_1 a f5 a6 := hw2.2.2.2.2.2
  have hZ : mZ [0, 33] [] f a f5 a6 := mZ_tr hZ (mZ_w (by decide) (by decide) eZ9)
  refine k_top (z := x) hw2.2.2.2.1 ?_
  exact kI_ret (v := x) hx hb hr hlocks rfl hK hS dX12_settled_10 (f5, a6, g7) hP hD ⟨(kb_any x), hI, hE, rfl, hw2.2.2.2.2.1, ((eZ9.1 33 rfl).trans (show f_1 33 = 0 from by rw [← ef_1]; rfl)), hZ⟩
set_option maxHeartbeats 4000000 in
set_option maxRecDepth 100000 in
theorem n_send  (l : Launch) {D : va_G} {K : Nat → ClassId} (o : Nat) (r : Nat → Nat) (f : Nat → Int32) (a : Nat → Nat → Int32) (g : Nat → Int64) (hI : mI f a) (x : Int32) (y : Int32)  (DD : Nat → tE) (P : pS) (hp0 : kK (a 2)) (hp1 : lM (a 2) DD) (hp2 : mPs (f 33) (a 31) P) : kI l yX12_send (Cond.code yX12_send cX12_send 3 (some .int) :: kG) (rmD 51 0 0) D (tysK K) [.ref o, .int x, .int y] (mW K o r f a g) (fun v (u : mS) => kb (-2147483648) v 2147483647 ∧ mI u.1 u.2.1 ∧ mE (XR [(0, 23)]) f a u.1 u.2.1 ∧ mTp v u.1 u.2.1 (a 1) (sndF DD (a 2) P x y) (decide ((sndF DD (a 2) P x y).1 < 0)) ∧ mZ [0, 22, 23, 24, 25, 33] [1, 2, 26, 31] f a u.1 u.2.1) (fun u => mW K o r u.1 u.2.1 u.2.2) 0 0 := by
  refine kI.of (cc := cX12_send) (maxL := 3) (ret := (some .int)) (by decide) rfl (Nat.le_of_ble_eq_true rfl) ?_
  intro p e s m below meth c A hx hb hr hml hown hts hlocks hnm hK hP hD hS hA ls hl
  have hE : mE (XR [(0, 23)]) f a f a := mE_rf
  have hZ : mZ [0, 22, 23, 24, 25, 33] [1, 2, 26, 31] f a f a := mZ_rf
  have hg : ∀ w ∈ kG, w.before _ s = true := fun w h => hts w (List.mem_cons_of_mem _ h)
  have hown : s.vm.findClass RX12 = some m.cls := hown
  have hl : lv_has ls 3 [(0, .ref o), (1, .int x), (2, .int y)] := hl
  refine lv_aload_n hx hb dX12_send_0 rfl (lv_at hl 0 rfl) ?_
  refine lv_aload_n hx hb dX12_send_1 rfl (lv_at hl 0 rfl) ?_
  refine lv_iload_n hx hb dX12_send_2 rfl (lv_at hl 1 rfl) ?_
  refine lv_iload_n hx hb dX12_send_3 rfl (lv_at hl 2 rfl) ?_
  refine kI.callV (As := [.int x, .int y]) (rest := [.ref o]) ⟨hx, hb, hml, hown, hg⟩ (n_sendsKept l o r f a g hI x y  DD P hp0 hp1 hp2) (cwV 2 hg (kgV wt7_120 wt7_122 wp6_6 wt1_14 wt7_123) rfl rfl rfl (by decide +kernel) ⟨by decide, by decide⟩) hK hP hD hS hA mIs [] rfl (wr := []) rfl rfl rfl (fun i h => by cases h) 0 12 rfl rfl rfl hl.1 rfl (Nat.le_of_ble_eq_true rfl) dX12_send_4 ⟨Nat.le_refl _, Nat.le_refl _⟩ (fun v2 u3 H locs hw1 hP hD hS => ?_)
  obtain ⟨f4, a5, g6⟩ := u3
  have hP : va_P D vwCl (mW K o r f4 a5 g6) H := hP
  have hD : va_D A (mW K o r f4 a5 g6) := hD
  have hI : mI f4 a5 := hw1.2.1
  have hE : mE (XR [(0, 23)]) f a f4 a5 := mE_tr hE hw1.2.2.1
  have eE7 : mE (XR [(0, 23)]) f a f4 a5 := hw1.2.2.1
  have eZ8 : mZ [22, 23, 24, 25, 33] [2, 26, 31] f a f4 a5 := hw1.2.2.2.2
  have hZ : mZ [0, 22, 23, 24, 25, 33] [1, 2, 26, 31] f a f4 a5 := mZ_tr hZ (mZ_w (by decide) (by decide) eZ8)
  refine kI.callV (As := [.int v2]) (rest := []) ⟨hx, hb, hml, hown, hg⟩ (n_goodOr l o r f4 a5 g6 hI v2 (kb_w hw1.1 (by decide) (by decide)) ) (cwV 1 hg (kgV wt7_128 wt7_130 wp6_8 wt1_14 wt7_131) rfl rfl rfl (by decide +kernel) ⟨by decide, by decide⟩) hK hP hD hS hA mIs [] rfl (wr := []) rfl rfl rfl (fun i h => by cases h) 0 12 rfl rfl rfl hl.1 rfl (Nat.le_of_ble_eq_true rfl) dX12_send_7 ⟨Nat.le_refl _, Nat.le_refl _⟩ (fun v10 u11 H locs hw9 hP hD hS => ?_)
  obtain ⟨f12, a13, g14⟩ := u11
  have hP : va_P D vwCl (mW K o r f12 a13 g14) H := hP
  have hD : va_D A (mW K o r f12 a13 g14) := hD
  have hI : mI f12 a13 := hw9.2.1
  have hE : mE (XR [(0, 23)]) f a f12 a13 := mE_tr hE (mE_w (XR_w (by decide)) hw9.2.2.1)
  have eE15 : mE (XR []) f4 a5 f12 a13 := hw9.2.2.1
  have eZ16 : mZ [0] [1] f4 a5 f12 a13 := hw9.2.2.2.2.2.2
  have hZ : mZ [0, 22, 23, 24, 25, 33] [1, 2, 26, 31] f a f12 a13 := mZ_tr hZ (mZ_w (by decide) (by decide) eZ16)
  refine k_top (z := v2) hw9.2.2.2.1 ?_
  exact kI_ret (v := v2) hx hb hr hlocks rfl hK hS dX12_send_10 (f12, a13, g14) hP hD ⟨(kb_w hw1.1 (by decide) (by decide)), hI, hE, (mTp_i (by have w1 := hw1.2.2.2.1; exact ⟨w1.1, ((eZ16.2 2 rfl)).trans w1.2.1, by (try dsimp only); rw [show f12 33 = f4 33 from (eZ16.1 33 rfl), show a13 31 = a5 31 from (eZ16.2 31 rfl)]; exact w1.2.2⟩) (hw9.2.2.2.2.1.trans (dec_lt (hw1.2.2.2.1).1)) (by have w1 := hw9.2.2.2.2.2.1; rw [show a5 1 = a 1 from (eZ8.2 1 rfl)] at w1; exact w1.trans (dec_lt (hw1.2.2.2.1).1))), hZ⟩
set_option maxHeartbeats 4000000 in
set_option maxRecDepth 100000 in
theorem n_rest  (l : Launch) {D : va_G} {K : Nat → ClassId} (o : Nat) (r : Nat → Nat) (f : Nat → Int32) (a : Nat → Nat → Int32) (g : Nat → Int64) (hI : mI f a) (x : Int32)  (P : pS) (hp0 : mPs (f 33) (a 31) P) : kI l yX12_rest (Cond.code yX12_rest cX12_rest 2 (some .int) :: kG) (rmD 4 0 0) D (tysK K) [.ref o, .int x] (mW K o r f a g) (fun v (u : mS) => kb (-2147483648) v 2147483647 ∧ mI u.1 u.2.1 ∧ mE (XR [(0, 23)]) f a u.1 u.2.1 ∧ mTp v u.1 u.2.1 (a 1) (rstF (a 2) P x) (decide ((rstF (a 2) P x).1 < 0)) ∧ mZ [0, 33] [1, 2, 31] f a u.1 u.2.1) (fun u => mW K o r u.1 u.2.1 u.2.2) 0 0 := by
  refine kI.of (cc := cX12_rest) (maxL := 2) (ret := (some .int)) (by decide) rfl (Nat.le_of_ble_eq_true rfl) ?_
  intro p e s m below meth c A hx hb hr hml hown hts hlocks hnm hK hP hD hS hA ls hl
  have hE : mE (XR [(0, 23)]) f a f a := mE_rf
  have hZ : mZ [0, 33] [1, 2, 31] f a f a := mZ_rf
  have hg : ∀ w ∈ kG, w.before _ s = true := fun w h => hts w (List.mem_cons_of_mem _ h)
  have hown : s.vm.findClass RX12 = some m.cls := hown
  have hl : lv_has ls 2 [(0, .ref o), (1, .int x)] := hl
  refine lv_aload_n hx hb dX12_rest_0 rfl (lv_at hl 0 rfl) ?_
  refine lv_aload_n hx hb dX12_rest_1 rfl (lv_at hl 0 rfl) ?_
  refine lv_iload_n hx hb dX12_rest_2 rfl (lv_at hl 1 rfl) ?_
  refine kI.callV (As := [.int x]) (rest := [.ref o]) ⟨hx, hb, hml, hown, hg⟩ (n_restsKept l o r f a g hI x  P hp0) (cwV 1 hg (kgV wt7_136 wt7_138 wp6_9 wt1_14 wt7_139) rfl rfl rfl (by decide +kernel) ⟨by decide, by decide⟩) hK hP hD hS hA mIs [] rfl (wr := []) rfl rfl rfl (fun i h => by cases h) 0 12 rfl rfl rfl hl.1 rfl (Nat.le_of_ble_eq_true rfl) dX12_rest_3 ⟨Nat.le_refl _, Nat.le_refl _⟩ (fun v2 u3 H locs hw1 hP hD hS => ?_)
  obtain ⟨f4, a5, g6⟩ := u3
  have hP : va_P D vwCl (mW K o r f4 a5 g6) H := hP
  have hD : va_D A (mW K o r f4 a5 g6) := hD
  have hI : mI f4 a5 := hw1.2.1
  have hE : mE (XR [(0, 23)]) f a f4 a5 := mE_tr hE hw1.2.2.1
  have eE7 : mE (XR [(0, 23)]) f a f4 a5 := hw1.2.2.1
  have eZ8 : mZ [33] [2, 31] f a f4 a5 := hw1.2.2.2.2
  have hZ : mZ [0, 33] [1, 2, 31] f a f4 a5 := mZ_tr hZ (mZ_w (by decide) (by decide) eZ8)
  refine kI.callV (As := [.int v2]) (rest := []) ⟨hx, hb, hml, hown, hg⟩ (n_goodOr l o r f4 a5 g6 hI v2 (kb_w hw1.1 (by decide) (by decide)) ) (cwV 1 hg (kgV wt7_128 wt7_130 wp6_8 wt1_14 wt7_131) rfl rfl rfl (by decide +kernel) ⟨by decide, by decide⟩) hK hP hD hS hA mIs [] rfl (wr := []) rfl rfl rfl (fun i h => by cases h) 0 12 rfl rfl rfl hl.1 rfl (Nat.le_of_ble_eq_true rfl) dX12_rest_6 ⟨Nat.le_refl _, Nat.le_refl _⟩ (fun v10 u11 H locs hw9 hP hD hS => ?_)
  obtain ⟨f12, a13, g14⟩ := u11
  have hP : va_P D vwCl (mW K o r f12 a13 g14) H := hP
  have hD : va_D A (mW K o r f12 a13 g14) := hD
  have hI : mI f12 a13 := hw9.2.1
  have hE : mE (XR [(0, 23)]) f a f12 a13 := mE_tr hE (mE_w (XR_w (by decide)) hw9.2.2.1)
  have eE15 : mE (XR []) f4 a5 f12 a13 := hw9.2.2.1
  have eZ16 : mZ [0] [1] f4 a5 f12 a13 := hw9.2.2.2.2.2.2
  have hZ : mZ [0, 33] [1, 2, 31] f a f12 a13 := mZ_tr hZ (mZ_w (by decide) (by decide) eZ16)
  refine k_top (z := v2) hw9.2.2.2.1 ?_
  exact kI_ret (v := v2) hx hb hr hlocks rfl hK hS dX12_rest_9 (f12, a13, g14) hP hD ⟨(kb_w hw1.1 (by decide) (by decide)), hI, hE, (mTp_i (by have w1 := hw1.2.2.2.1; exact ⟨w1.1, ((eZ16.2 2 rfl)).trans w1.2.1, by (try dsimp only); rw [show f12 33 = f4 33 from (eZ16.1 33 rfl), show a13 31 = a5 31 from (eZ16.2 31 rfl)]; exact w1.2.2⟩) (hw9.2.2.2.2.1.trans (dec_lt (hw1.2.2.2.1).1)) (by have w1 := hw9.2.2.2.2.2.1; rw [show a5 1 = a 1 from (eZ8.2 1 rfl)] at w1; exact w1.trans (dec_lt (hw1.2.2.2.1).1))), hZ⟩
set_option maxHeartbeats 4000000 in
set_option maxRecDepth 100000 in
theorem n_throwDown  (l : Launch) {D : va_G} {K : Nat → ClassId} (o : Nat) (r : Nat → Nat) (f : Nat → Int32) (a : Nat → Nat → Int32) (g : Nat → Int64) (hI : mI f a) (x : Int32)  (P : pS) (hp0 : kK (a 2)) (hp1 : mPs (f 33) (a 31) P) : kI l yX12_throwDown (Cond.code yX12_throwDown cX12_throwDown 2 (some .int) :: kG) (rmD 5 0 0) D (tysK K) [.ref o, .int x] (mW K o r f a g) (fun v (u : mS) => kb (-2147483648) v 2147483647 ∧ mI u.1 u.2.1 ∧ mE (XR [(0, 23)]) f a u.1 u.2.1 ∧ mTp v u.1 u.2.1 (a 1) (thrF (a 2) P x) (decide ((thrF (a 2) P x).1 < 0)) ∧ mZ [0, 33] [1, 2, 31] f a u.1 u.2.1) (fun u => mW K o r u.1 u.2.1 u.2.2) 0 0 := by
  refine kI.of (cc := cX12_throwDown) (maxL := 2) (ret := (some .int)) (by decide) rfl (Nat.le_of_ble_eq_true rfl) ?_
  intro p e s m below meth c A hx hb hr hml hown hts hlocks hnm hK hP hD hS hA ls hl
  have hE : mE (XR [(0, 23)]) f a f a := mE_rf
  have hZ : mZ [0, 33] [1, 2, 31] f a f a := mZ_rf
  have hg : ∀ w ∈ kG, w.before _ s = true := fun w h => hts w (List.mem_cons_of_mem _ h)
  have hown : s.vm.findClass RX12 = some m.cls := hown
  have hl : lv_has ls 2 [(0, .ref o), (1, .int x)] := hl
  refine lv_aload_n hx hb dX12_throwDown_0 rfl (lv_at hl 0 rfl) ?_
  refine lv_aload_n hx hb dX12_throwDown_1 rfl (lv_at hl 0 rfl) ?_
  refine lv_iload_n hx hb dX12_throwDown_2 rfl (lv_at hl 1 rfl) ?_
  refine kI.callV (As := [.int x]) (rest := [.ref o]) ⟨hx, hb, hml, hown, hg⟩ (n_throwsKept l o r f a g hI x  P hp0 hp1) (cwV 1 hg (kgV wt7_144 wt7_146 wp6_10 wt1_14 wt7_147) rfl rfl rfl (by decide +kernel) ⟨by decide, by decide⟩) hK hP hD hS hA mIs [] rfl (wr := []) rfl rfl rfl (fun i h => by cases h) 0 12 rfl rfl rfl hl.1 rfl (Nat.le_of_ble_eq_true rfl) dX12_throwDown_3 ⟨Nat.le_refl _, Nat.le_refl _⟩ (fun v2 u3 H locs hw1 hP hD hS => ?_)
  obtain ⟨f4, a5, g6⟩ := u3
  have hP : va_P D vwCl (mW K o r f4 a5 g6) H := hP
  have hD : va_D A (mW K o r f4 a5 g6) := hD
  have hI : mI f4 a5 := hw1.2.1
  have hE : mE (XR [(0, 23)]) f a f4 a5 := mE_tr hE hw1.2.2.1
  have eE7 : mE (XR [(0, 23)]) f a f4 a5 := hw1.2.2.1
  have eZ8 : mZ [33] [2, 31] f a f4 a5 := hw1.2.2.2.2
  have hZ : mZ [0, 33] [1, 2, 31] f a f4 a5 := mZ_tr hZ (mZ_w (by decide) (by decide) eZ8)
  refine kI.callV (As := [.int v2]) (rest := []) ⟨hx, hb, hml, hown, hg⟩ (n_goodOr l o r f4 a5 g6 hI v2 (kb_w hw1.1 (by decide) (by decide)) ) (cwV 1 hg (kgV wt7_128 wt7_130 wp6_8 wt1_14 wt7_131) rfl rfl rfl (by decide +kernel) ⟨by decide, by decide⟩) hK hP hD hS hA mIs [] rfl (wr := []) rfl rfl rfl (fun i h => by cases h) 0 12 rfl rfl rfl hl.1 rfl (Nat.le_of_ble_eq_true rfl) dX12_throwDown_6 ⟨Nat.le_refl _, Nat.le_refl _⟩ (fun v10 u11 H locs hw9 hP hD hS => ?_)
  obtain ⟨f12, a13, g14⟩ := u11
  have hP : va_P D vwCl (mW K o r f12 a13 g14) H := hP
  have hD : va_D A (mW K o r f12 a13 g14) := hD
  have hI : mI f12 a13 := hw9.2.1
  have hE : mE (XR [(0, 23)]) f a f12 a13 := mE_tr hE (mE_w (XR_w (by decide)) hw9.2.2.1)
  have eE15 : mE (XR []) f4 a5 f12 a13 := hw9.2.2.1
  have eZ16 : mZ [0] [1] f4 a5 f12 a13 := hw9.2.2.2.2.2.2
  have hZ : mZ [0, 33] [1, 2, 31] f a f12 a13 := mZ_tr hZ (mZ_w (by decide) (by decide) eZ16)
  refine k_top (z := v2) hw9.2.2.2.1 ?_
  exact kI_ret (v := v2) hx hb hr hlocks rfl hK hS dX12_throwDown_9 (f12, a13, g14) hP hD ⟨(kb_w hw1.1 (by decide) (by decide)), hI, hE, (mTp_i (by have w1 := hw1.2.2.2.1; exact ⟨w1.1, ((eZ16.2 2 rfl)).trans w1.2.1, by (try dsimp only); rw [show f12 33 = f4 33 from (eZ16.1 33 rfl), show a13 31 = a5 31 from (eZ16.2 31 rfl)]; exact w1.2.2⟩) (hw9.2.2.2.2.1.trans (dec_lt (hw1.2.2.2.1).1)) (by have w1 := hw9.2.2.2.2.2.1; rw [show a5 1 = a 1 from (eZ8.2 1 rfl)] at w1; exact w1.trans (dec_lt (hw1.2.2.2.1).1))), hZ⟩
set_option maxHeartbeats 4000000 in
set_option maxRecDepth 100000 in
theorem n_tick  (l : Launch) {D : va_G} {K : Nat → ClassId} (o : Nat) (r : Nat → Nat) (f : Nat → Int32) (a : Nat → Nat → Int32) (g : Nat → Int64) (hI : mI f a)   (DD : Nat → tE) (P : pS) (hp0 : kK (a 2)) (hp1 : lM (a 2) DD) (hp2 : mPs (f 33) (a 31) P) (hp3 : (a 2 22).toInt ≤ 999) : kI l yX12_tick (Cond.code yX12_tick cX12_tick 1 (some .int) :: kG) (rmD 52 0 0) D (tysK K) [.ref o] (mW K o r f a g) (fun v (u : mS) => kb (-2147483648) v 2147483647 ∧ mI u.1 u.2.1 ∧ mE (XR [(0, 23)]) f a u.1 u.2.1 ∧ mTp v u.1 u.2.1 (a 1) (ticF DD (a 2) P) (decide ((ticF DD (a 2) P).1 < 0)) ∧ mZ [0, 22, 23, 24, 25, 33] [1, 2, 26, 29, 30, 31] f a u.1 u.2.1) (fun u => mW K o r u.1 u.2.1 u.2.2) 0 0 := by
  refine kI.of (cc := cX12_tick) (maxL := 1) (ret := (some .int)) (by decide) rfl (Nat.le_of_ble_eq_true rfl) ?_
  intro p e s m below meth c A hx hb hr hml hown hts hlocks hnm hK hP hD hS hA ls hl
  have hE : mE (XR [(0, 23)]) f a f a := mE_rf
  have hZ : mZ [0, 22, 23, 24, 25, 33] [1, 2, 26, 29, 30, 31] f a f a := mZ_rf
  have hg : ∀ w ∈ kG, w.before _ s = true := fun w h => hts w (List.mem_cons_of_mem _ h)
  have hown : s.vm.findClass RX12 = some m.cls := hown
  have hl : lv_has ls 1 [(0, .ref o)] := hl
  refine lv_aload_n hx hb dX12_tick_0 rfl (lv_at hl 0 rfl) ?_
  refine lv_aload_n hx hb dX12_tick_1 rfl (lv_at hl 0 rfl) ?_
  refine kI.callV (As := []) (rest := [.ref o]) ⟨hx, hb, hml, hown, hg⟩ (n_ticksKept l o r f a g hI   DD P hp0 hp1 hp2 hp3) (cwV 0 hg (kgV wt7_160 wt7_162 wp6_13 wt1_14 wt7_163) rfl rfl rfl (by decide +kernel) ⟨by decide, by decide⟩) hK hP hD hS hA mIs [] rfl (wr := []) rfl rfl rfl (fun i h => by cases h) 0 12 rfl rfl rfl hl.1 rfl (Nat.le_of_ble_eq_true rfl) dX12_tick_2 ⟨Nat.le_refl _, Nat.le_refl _⟩ (fun v2 u3 H locs hw1 hP hD hS => ?_)
  obtain ⟨f4, a5, g6⟩ := u3
  have hP : va_P D vwCl (mW K o r f4 a5 g6) H := hP
  have hD : va_D A (mW K o r f4 a5 g6) := hD
  have hI : mI f4 a5 := hw1.2.1
  have hE : mE (XR [(0, 23)]) f a f4 a5 := mE_tr hE hw1.2.2.1
  have eE7 : mE (XR [(0, 23)]) f a f4 a5 := hw1.2.2.1
  have eZ8 : mZ [22, 23, 24, 25, 33] [2, 26, 29, 30, 31] f a f4 a5 := hw1.2.2.2.2
  have hZ : mZ [0, 22, 23, 24, 25, 33] [1, 2, 26, 29, 30, 31] f a f4 a5 := mZ_tr hZ (mZ_w (by decide) (by decide) eZ8)
  refine kI.callV (As := [.int v2]) (rest := []) ⟨hx, hb, hml, hown, hg⟩ (n_goodOr l o r f4 a5 g6 hI v2 (kb_w hw1.1 (by decide) (by decide)) ) (cwV 1 hg (kgV wt7_128 wt7_130 wp6_8 wt1_14 wt7_131) rfl rfl rfl (by decide +kernel) ⟨by decide, by decide⟩) hK hP hD hS hA mIs [] rfl (wr := []) rfl rfl rfl (fun i h => by cases h) 0 12 rfl rfl rfl hl.1 rfl (Nat.le_of_ble_eq_true rfl) dX12_tick_5 ⟨Nat.le_refl _, Nat.le_refl _⟩ (fun v10 u11 H locs hw9 hP hD hS => ?_)
  obtain ⟨f12, a13, g14⟩ := u11
  have hP : va_P D vwCl (mW K o r f12 a13 g14) H := hP
  have hD : va_D A (mW K o r f12 a13 g14) := hD
  have hI : mI f12 a13 := hw9.2.1
  have hE : mE (XR [(0, 23)]) f a f12 a13 := mE_tr hE (mE_w (XR_w (by decide)) hw9.2.2.1)
  have eE15 : mE (XR []) f4 a5 f12 a13 := hw9.2.2.1
  have eZ16 : mZ [0] [1] f4 a5 f12 a13 := hw9.2.2.2.2.2.2
  have hZ : mZ [0, 22, 23, 24, 25, 33] [1, 2, 26, 29, 30, 31] f a f12 a13 := mZ_tr hZ (mZ_w (by decide) (by decide) eZ16)
  refine k_top (z := v2) hw9.2.2.2.1 ?_
  exact kI_ret (v := v2) hx hb hr hlocks rfl hK hS dX12_tick_8 (f12, a13, g14) hP hD ⟨(kb_w hw1.1 (by decide) (by decide)), hI, hE, (mTp_i (by have w1 := hw1.2.2.2.1; exact ⟨w1.1, ((eZ16.2 2 rfl)).trans w1.2.1, by (try dsimp only); rw [show f12 33 = f4 33 from (eZ16.1 33 rfl), show a13 31 = a5 31 from (eZ16.2 31 rfl)]; exact w1.2.2⟩) (hw9.2.2.2.2.1.trans (dec_lt (hw1.2.2.2.1).1)) (by have w1 := hw9.2.2.2.2.2.1; rw [show a5 1 = a 1 from (eZ8.2 1 rfl)] at w1; exact w1.trans (dec_lt (hw1.2.2.2.1).1))), hZ⟩
set_option maxHeartbeats 4000000 in
set_option maxRecDepth 100000 in
theorem n_undo  (l : Launch) {D : va_G} {K : Nat → ClassId} (o : Nat) (r : Nat → Nat) (f : Nat → Int32) (a : Nat → Nat → Int32) (g : Nat → Int64) (hI : mI f a)   (P : pS) (hp0 : mPs (f 33) (a 31) P) : kI l yX12_undo (Cond.code yX12_undo cX12_undo 3 (some .int) :: kG) (rmD 2 0 0) D (tysK K) [.ref o] (mW K o r f a g) (fun v (u : mS) => kb (-2147483648) v 2147483647 ∧ mI u.1 u.2.1 ∧ mE (XR [(0, 23)]) f a u.1 u.2.1 ∧ mDd v u.1 u.2.1 (udF (a 2) P) ∧ u.1 0 = (if decide (P.1 = 0) = true then v else 0) ∧ u.2.1 1 = (if decide (P.1 = 0) = true then rfS (udF (a 2) P).1 (a 1) else a 1) ∧ mZ [0, 33] [1, 2] f a u.1 u.2.1) (fun u => mW K o r u.1 u.2.1 u.2.2) 0 0 := by
  refine kI.of (cc := cX12_undo) (maxL := 3) (ret := (some .int)) (by decide) rfl (Nat.le_of_ble_eq_true rfl) ?_
  intro p e s m below meth c A hx hb hr hml hown hts hlocks hnm hK hP hD hS hA ls hl
  have hE : mE (XR [(0, 23)]) f a f a := mE_rf
  have hZ : mZ [0, 33] [1, 2] f a f a := mZ_rf
  have hg : ∀ w ∈ kG, w.before _ s = true := fun w h => hts w (List.mem_cons_of_mem _ h)
  have hown : s.vm.findClass RX12 = some m.cls := hown
  have hl : lv_has ls 3 [(0, .ref o)] := hl
  obtain ⟨c33, ec33⟩ : ∃ z : Int32, z = f 33 := ⟨_, rfl⟩
  have b1 : kb 0 c33 16 := kb_eq ec33 (fI_at hI.1 33 (by decide) (by decide))
  have hcP : c33.toInt = (P.1 : Int) := by rw [ec33]; exact hp0.1
  refine lv_aload_n hx hb dX12_undo_0 rfl (lv_at hl 0 rfl) ?_
  refine va_get (D := D) (ci := 12) (v := .int (f 33)) (C := RX12) (T := TX12) (N := 48) hx hb hg inC12 hown hK hP 0 rfl rfl 33 (by decide) (hg _ wt5_193) (fun _ h9 => h9) rfl dX12_undo_1 ?_
  refine k_top (z := c33) ec33.symm ?_
  refine lv_if_ne (tgt := 14) hx hb dX12_undo_4 (by decide) (fun c2 => ?_) (fun c2 => ?_)
  · have b3 : kb 1 c33 16 := kr_nel c2 b1 kc_0 (by decide)
    refine lv_aload_n hx hb dX12_undo_14 rfl (lv_at hl 0 rfl) ?_
    refine lv_dup hx hb dX12_undo_15 rfl ?_
    refine va_get (D := D) (ci := 12) (v := .int (f 33)) (C := RX12) (T := TX12) (N := 48) hx hb hg inC12 hown hK hP 0 rfl rfl 33 (by decide) (hg _ wt5_193) (fun _ h9 => h9) rfl dX12_undo_16 ?_
    refine k_top (z := c33) ec33.symm ?_
    refine lv_iconst (v := 1) hx hb dX12_undo_19 (by decide) ?_
    refine lv_isub hx hb dX12_undo_20 ?_
    refine lv_topi (fun t4 et4 => ?_)
    have b5 : kb 0 t4 15 := kb_eq et4 (kb_sub b3 kc_1 (by decide) (by decide))
    have qt4 : t4.toInt = c33.toInt - 1 := by rw [et4]; exact kt_subc b3 kc_1 (by decide) (by decide)
    refine va_put (D := D) (ci := 12) (v := .int t4) (ty := .int) (C := RX12) (T := TX12) (N := 48) hx hb hg inC12 tyX12 tyX12_ok nmX12 hown hK hP hD hS 0 rfl rfl 33 (by decide) (hg _ wt5_193) (fun _ h9 => h9) rfl (by decide +kernel) rfl rfl (Nat.le_of_ble_eq_true rfl) dX12_undo_21 (fun H locs hP hD hS => ?_)
    have hP : va_P D vwCl (mW K o r (upd f 33 t4) a g) H := hP
    have hD : va_D A (mW K o r (upd f 33 t4) a g) := hD
    refine k_gen (P := fun z => va_P D vwCl (mW K o r z a g) H ∧ va_D A (mW K o r z a g) ∧ (mI z a) ∧ (mE (XR [(0, 23)]) f a z a) ∧ (mZ [0, 33] [1, 2] f a z a)) (upd f 33 t4) ⟨hP, hD, (mI_f hI (fI_st hI.1 33 b5 (by decide) (by decide))), (mE_f hE (by decide)), (mZ_f hZ rfl)⟩ (fun f_6 ef_6 hq => ?_)
    obtain ⟨hP, hD, hI, hE, hZ⟩ := hq
    have hn0 : ¬ f 33 = 0 := fun w9 => c2 (ec33.trans w9)
    have hUv : t4.toInt = ((P.1 - 1 : Nat) : Int) := by have w1 := qt4; have w2 := hcP; have w3 := mP_n0 hp0 hn0; omega
    refine lv_bipush (v := 24) hx hb dX12_undo_24 (by decide) ?_
    refine lv_aload_n hx hb dX12_undo_26 rfl (lv_at hl 0 rfl) ?_
    refine va_get (D := D) (ci := 12) (v := .int (f_6 33)) (C := RX12) (T := TX12) (N := 48) hx hb hg inC12 hown hK hP 0 rfl rfl 33 (by decide) (hg _ wt5_193) (fun _ h9 => h9) rfl dX12_undo_27 ?_
    refine k_top (z := t4) (show f_6 33 = t4 from by rw [← ef_6]; rfl) ?_
    refine lv_imul hx hb dX12_undo_30 ?_
    refine lv_topi (fun t7 et7 => ?_)
    have b8 : kb 0 t7 360 := kb_eq et7 (kb_mul kc_24 b5 (by decide) (by decide) (by decide))
    have qt7 : t7.toInt = 24 * t4.toInt := by rw [et7]; exact kt_cmul kc_24 b5 (by decide) (by decide) (by decide)
    refine lv_istore_n (lv' := [(1, .int t7), (0, .ref o)]) hx hb dX12_undo_31 rfl hl (by decide) rfl (fun ls hl => ?_)
    refine lv_iconst (v := 0) hx hb dX12_undo_32 (by decide) ?_
    refine lv_istore_n (lv' := [(2, .int 0), (1, .int t7), (0, .ref o)]) hx hb dX12_undo_33 rfl hl (by decide) rfl (fun ls hl => ?_)
    have lp11 : ∀ (n12 : Nat) (nn : Nat) (B10 : Nat → Nat → Int32) (H : Heap) (locs : List Loc) (ls : Array Slot) (y9 : Int32), (23 < y9.toInt + (n12 : Int)) → (mI f_6 B10) → (mE (XR [(0, 23)]) f a f_6 B10) → (mZ [0, 33] [1, 2] f a f_6 B10) → (kb 0 y9 23) → (y9.toInt = (nn : Int)) → (∀ q, q < nn → B10 2 (0 + q) = a 31 (24 * (P.1 - 1) + q)) → (B10 1 = a 1) → (nn ≤ 23) → va_P D vwCl (mW K o r f_6 B10 g) H → va_D A (mW K o r f_6 B10 g) → va_S A s.heap H locs → lv_has ls 3 [(2, .int y9), (1, .int t7), (0, .ref o)] → W p l e (rmD 2 0 0) s m ([.ref o] : List Value).toArray below meth c H locs 0 0 (kQi D (tysK K) (fun v (u : mS) => kb (-2147483648) v 2147483647 ∧ mI u.1 u.2.1 ∧ mE (XR [(0, 23)]) f a u.1 u.2.1 ∧ mDd v u.1 u.2.1 (udF (a 2) P) ∧ u.1 0 = (if decide (P.1 = 0) = true then v else 0) ∧ u.2.1 1 = (if decide (P.1 = 0) = true then rfS (udF (a 2) P).1 (a 1) else a 1) ∧ mZ [0, 33] [1, 2] f a u.1 u.2.1) (fun u => mW K o r u.1 u.2.1 u.2.2) A below ([.ref o] : List Value).toArray s 0 0) (F0 m 34 ls []) := by
      intro n12
      induction n12 with
      | zero =>
        intro nn B10  H locs ls y9 hmlp11 hI hE hZ b13 hvlp11_0 hvlp11_1 hvlp11_2 hvlp11_3 hP hD hS hl
        exact (by have h1 := b13.2; have h2 := hmlp11; omega : False).elim
      | succ n12 ihlp11 =>
        intro nn B10  H locs ls y9 hmlp11 hI hE hZ b13 hvlp11_0 hvlp11_1 hvlp11_2 hvlp11_3 hP hD hS hl
        have hnn : y9 = nI nn := nI_q hvlp11_0
        have hZB := hZ
        refine lv_iload_n hx hb dX12_undo_34 rfl (lv_at hl 0 rfl) ?_
        refine lv_bipush (v := 23) hx hb dX12_undo_35 (by decide) ?_
        refine lv_icmp_ge (tgt := 60) hx hb dX12_undo_37 (by decide) (fun c14 => ?_) (fun c14 => ?_)
        · have h15 := (kc_le c14)
          have b16 : kb 23 y9 23 := kr_le2 h15 kc_23 b13
          have hB := hvlp11_1
          rw [(by have w1 := hvlp11_0; have w2 := (b16).1; have w3 := hvlp11_3; omega : nn = 23)] at hB
          have hB2 : ∀ i, i < 23 → B10 2 i = a 31 (24 * (P.1 - 1) + i) := fun i hi => by have w9 := hB i hi; rw [Nat.zero_add] at w9; exact w9
          have hZ1c := hvlp11_2
          refine lv_aload_n hx hb dX12_undo_60 rfl (lv_at hl 2 rfl) ?_
          refine lv_aload_n hx hb dX12_undo_61 rfl (lv_at hl 2 rfl) ?_
          refine va_get (D := D) (ci := 12) (v := .ref (r 31)) (C := RX12) (T := TX12) (N := 48) hx hb hg inC12 hown hK hP 0 rfl rfl 31 (by decide) (hg _ wt5_191) (fun _ h9 => h9) rfl dX12_undo_62 ?_
          refine lv_iload_n hx hb dX12_undo_65 rfl (lv_at hl 1 rfl) ?_
          refine lv_bipush (v := 23) hx hb dX12_undo_66 (by decide) ?_
          refine lv_iadd hx hb dX12_undo_68 ?_
          refine lv_topi (fun t17 et17 => ?_)
          have b18 : kb 23 t17 383 := kb_eq et17 (kb_add b8 kc_23 (by decide) (by decide))
          have qt17 : t17.toInt = t7.toInt + 23 := by rw [et17]; exact kt_addc b8 kc_23 (by decide) (by decide)
          refine va_iald hx hb hK hP 15 0 rfl rfl (kb_in b18 (by decide) (by decide)) dX12_undo_69 ?_
          refine lv_topi (fun t19 et19 => ?_)
          have hwv : t19 = a 31 (24 * (P.1 - 1) + 23) := et19.trans ((congrArg (B10 31) (show t17.toNatClampNeg = 24 * (P.1 - 1) + 23 from by have w2 := qt17; have w3 := qt7; have w4 := hUv; unfold Int32.toNatClampNeg; omega)).trans (congrFun (hZ.2 31 rfl) _))
          refine kI.callV (As := [.int t19]) (rest := []) ⟨hx, hb, hml, hown, hg⟩ (n_good l o r f_6 B10 g hI t19  ) (cwV 1 hg (kgV wt6_76 wt6_78 wp3_6 wt1_14 wt6_79) rfl rfl rfl (by decide +kernel) ⟨by decide, by decide⟩) hK hP hD hS hA mIs [] rfl (wr := []) rfl rfl rfl (fun i h => by cases h) 0 12 rfl rfl rfl hl.1 rfl (Nat.le_of_ble_eq_true rfl) dX12_undo_70 ⟨Nat.le_refl _, Nat.le_refl _⟩ (fun v21 u22 H locs hw20 hP hD hS => ?_)
          obtain ⟨f23, a24, g25⟩ := u22
          have hP : va_P D vwCl (mW K o r f23 a24 g25) H := hP
          have hD : va_D A (mW K o r f23 a24 g25) := hD
          have hI : mI f23 a24 := hw20.2.1
          have hE : mE (XR [(0, 23)]) f a f23 a24 := mE_tr hE (mE_w (XR_w (by decide)) hw20.2.2.1)
          have eE26 : mE (XR []) f_6 B10 f23 a24 := hw20.2.2.1
          have eZ27 : mZ [0] [] f_6 B10 f23 a24 := hw20.2.2.2.2.2
          have hZ : mZ [0, 33] [1, 2] f a f23 a24 := mZ_tr hZ (mZ_w (by decide) (by decide) eZ27)
          refine k_top (z := t19) hw20.2.2.2.1 ?_
          exact kI_ret (v := t19) hx hb hr hlocks rfl hK hS dX12_undo_73 (f23, a24, g25) hP hD ⟨(kb_any t19), hI, hE, (by unfold udF; rw [if_neg (mP_n0 hp0 hn0)]; exact mDd_e rfl (congrArg Int32.toInt ((hwv).trans (hp0.2.2 (P.1 - 1) (by have w3 := mP_n0 hp0 hn0; omega)).1)) (funext fun i => by show a24 2 i = if i < 23 then _ else _; by_cases hi : i < 23; (rw [if_pos hi]; exact ((hw20.2.2.1).2.2.1 i rfl).trans ((hB2 i hi).trans ((hp0.2.2 (P.1 - 1) (by have w3 := mP_n0 hp0 hn0; omega)).2 i hi))); (rw [if_neg hi]; exact hE.2.2.1 i (XR23 hi))) (by (try dsimp only); rw [show a24 31 = a 31 from hZ.2 31 rfl]; exact mP_un hp0 hn0 (by show (f23 33).toInt = _; rw [((eZ27.1 33 rfl).trans (show f_6 33 = t4 from by rw [← ef_6]; rfl)), ← ec33]; exact qt4))), (by rw [if_neg (fun w9 => mP_n0 hp0 hn0 (of_decide_eq_true w9))]; exact hw20.2.2.2.2.1), (by rw [if_neg (fun w9 => mP_n0 hp0 hn0 (of_decide_eq_true w9))]; exact ((eZ27.2 1 rfl)).trans hZ1c), hZ⟩
        · have h28 := (kc_nle c14)
          have b29 : kb 0 y9 22 := kr_lt1 h28 b13 kc_23 (by decide)
          refine lv_aload_n hx hb dX12_undo_40 rfl (lv_at hl 2 rfl) ?_
          refine va_get (D := D) (ci := 12) (v := .ref (r 2)) (C := RX12) (T := TX12) (N := 48) hx hb hg inC12 hown hK hP 0 rfl rfl 2 (by decide) (hg _ wt5_162) (fun _ h9 => h9) rfl dX12_undo_41 ?_
          refine lv_iload_n hx hb dX12_undo_44 rfl (lv_at hl 0 rfl) ?_
          refine lv_aload_n hx hb dX12_undo_45 rfl (lv_at hl 2 rfl) ?_
          refine va_get (D := D) (ci := 12) (v := .ref (r 31)) (C := RX12) (T := TX12) (N := 48) hx hb hg inC12 hown hK hP 0 rfl rfl 31 (by decide) (hg _ wt5_191) (fun _ h9 => h9) rfl dX12_undo_46 ?_
          refine lv_iload_n hx hb dX12_undo_49 rfl (lv_at hl 1 rfl) ?_
          refine lv_iload_n hx hb dX12_undo_50 rfl (lv_at hl 0 rfl) ?_
          refine lv_iadd hx hb dX12_undo_51 ?_
          refine lv_topi (fun t30 et30 => ?_)
          have b31 : kb 0 t30 382 := kb_eq et30 (kb_add b8 b29 (by decide) (by decide))
          have qt30 : t30.toInt = t7.toInt + y9.toInt := by rw [et30]; exact kt_add b8 b29 (by decide) (by decide)
          refine va_iald hx hb hK hP 15 0 rfl rfl (kb_in b31 (by decide) (by decide)) dX12_undo_52 ?_
          refine lv_topi (fun t32 et32 => ?_)
          refine va_iast hx hb hK hP hD hS 2 0 rfl rfl (kb_in b29 (by decide) (by decide)) dX12_undo_53 (fun H locs hP hD hS => ?_)
          have hP : va_P D vwCl (mW K o r f_6 (va_up B10 2 (upd (B10 2) y9.toNatClampNeg t32)) g) H := hP
          have hD : va_D A (mW K o r f_6 (va_up B10 2 (upd (B10 2) y9.toNatClampNeg t32)) g) := hD
          refine k_gen (P := fun z => va_P D vwCl (mW K o r f_6 z g) H ∧ va_D A (mW K o r f_6 z g) ∧ (mI f_6 z) ∧ (mE (XR [(0, 23)]) f a f_6 z) ∧ (mZ [0, 33] [1, 2] f a f_6 z)) (va_up B10 2 (upd (B10 2) y9.toNatClampNeg t32)) ⟨hP, hD, (mI_2 hI (aI_mv hI.2.1 2 _ 31 _ et32 (kq_31 b29 b5 (by omega)).symm) (kb_clt b29 (by decide) (by decide))), (mE_2 hE (bX_at 0 23 b29 (by decide) (by decide) (by decide))), (mZ_a hZ rfl)⟩ (fun a_33 ea_33 hq => ?_)
          obtain ⟨hP, hD, hI, hE, hZ⟩ := hq
          obtain ⟨t34, et34⟩ : ∃ z : Int32, z = y9 + Int32.ofInt 1 := ⟨_, rfl⟩
          have qt34 : t34.toInt = y9.toInt + 1 := by rw [et34]; exact km_inc b29 (by decide) (by decide)
          have b35 : kb 1 t34 23 := kb_inc (k := 1) qt34 b29
          refine lv_iinc (v := t34) (lv' := [(2, .int t34), (1, .int t7), (0, .ref o)]) hx hb dX12_undo_54 hl (k := 0) rfl et34.symm (by decide) rfl (fun ls hl => ?_)
          refine lv_goto (tgt := 34) hx hb dX12_undo_57 (by decide) ?_
          exact ihlp11 (nn + 1) a_33 _ _ _ t34 (km_up hmlp11 qt34) hI hE hZ (kb_w b35 (by decide) (by decide)) (by have w1 := hvlp11_0; have w2 := qt34; omega) (cp_s (n := 0) hvlp11_1 (show a_33 2 = upd (B10 2) y9.toNatClampNeg t32 from by rw [← ea_33]; rfl) (by rw [cl_nat hvlp11_0]; omega) (et32.trans ((congrArg (B10 31) (show t30.toNatClampNeg = 24 * (P.1 - 1) + nn from by have w1 := hvlp11_0; have w2 := qt30; have w3 := qt7; have w4 := hUv; unfold Int32.toNatClampNeg; omega)).trans (congrFun (hZB.2 31 rfl) _)))) ((((show a_33 1 = B10 1 from by rw [← ea_33]; rfl)).trans hvlp11_2)) (by have w1 := hvlp11_0; have w2 := (b29).2; omega) hP hD hS (lv_sub hl [0, 1, 2] rfl)
    exact lp11 (24) 0 a _ _ _ 0 (by have h1 := (kc_0); unfold kb at h1; omega) hI hE hZ (kb_w kc_0 (by decide) (by decide)) (by decide +kernel) (fun q h => absurd h (Nat.not_lt_zero q)) (rfl) (Nat.zero_le _) hP hD hS (lv_sub hl [0, 1, 2] rfl)
  · have b36 : kb 0 c33 0 := kb_eq c2 kc_0
    refine lv_aload_n hx hb dX12_undo_7 rfl (lv_at hl 0 rfl) ?_
    refine lv_bipush (v := (-3)) hx hb dX12_undo_8 (by decide) ?_
    refine kI.callV (As := [.int (-3)]) (rest := []) ⟨hx, hb, hml, hown, hg⟩ (n_refuses l o r f a g hI (-3) (kb_w kc_m3 (by decide) (by decide)) ) (cwV 1 hg (kgV wt6_72 wt6_74 wp3_5 wt1_14 wt6_75) rfl rfl rfl (by decide +kernel) ⟨by decide, by decide⟩) hK hP hD hS hA mIs [] rfl (wr := []) rfl rfl rfl (fun i h => by cases h) 0 12 rfl rfl rfl hl.1 rfl (Nat.le_of_ble_eq_true rfl) dX12_undo_10 ⟨Nat.le_refl _, Nat.le_refl _⟩ (fun v38 u39 H locs hw37 hP hD hS => ?_)
    obtain ⟨f40, a41, g42⟩ := u39
    have hP : va_P D vwCl (mW K o r f40 a41 g42) H := hP
    have hD : va_D A (mW K o r f40 a41 g42) := hD
    have hI : mI f40 a41 := hw37.2.1
    have hE : mE (XR [(0, 23)]) f a f40 a41 := mE_tr hE (mE_w (XR_w (by decide)) hw37.2.2.1)
    have eE43 : mE (XR []) f a f40 a41 := hw37.2.2.1
    have eZ44 : mZ [0] [1] f a f40 a41 := hw37.2.2.2.2.2.2
    have hZ : mZ [0, 33] [1, 2] f a f40 a41 := mZ_tr hZ (mZ_w (by decide) (by decide) eZ44)
    refine k_top (z := (-3)) hw37.2.2.2.1 ?_
    exact kI_ret (v := (-3)) hx hb hr hlocks rfl hK hS dX12_undo_13 (f40, a41, g42) hP hD ⟨(kb_w kc_m3 (by decide) (by decide)), hI, hE, (by unfold udF; rw [if_pos (mP_0 hp0 (ec33.symm.trans c2))]; exact mDd_e rfl (by decide +kernel) (funext fun i => (hw37.2.2.1).2.2.1 i rfl) (by (try dsimp only); rw [show f40 33 = f 33 from ((eZ44.1 33 rfl).trans ec33.symm).trans ec33, show a41 31 = a 31 from hZ.2 31 rfl]; exact hp0)), (by rw [if_pos (decide_eq_true (mP_0 hp0 (ec33.symm.trans c2)))]; exact hw37.2.2.2.2.1), (by rw [if_pos (decide_eq_true (mP_0 hp0 (ec33.symm.trans c2)))]; unfold udF; rw [if_pos (mP_0 hp0 (ec33.symm.trans c2))]; exact hw37.2.2.2.2.2.1), hZ⟩
