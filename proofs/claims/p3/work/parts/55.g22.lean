theorem bv_1 {b : Bool} {v : Int32} (e : v = (if b = true then 1 else 0)) (h : v = 1) : b = true := by
  cases b with
  | true => rfl
  | false => exact absurd (e.symm.trans h) (by decide +kernel)
theorem bv_0 {b : Bool} {v : Int32} (e : v = (if b = true then 1 else 0)) (h : ¬ v = 1) : b = false := by
  cases b with
  | true => exact absurd (e.trans (if_pos rfl)) h
  | false => rfl
/-- what law answers, what it does to the number of LAWS and to FAULT -/
def lawP (t : Nat → Int32) (sz v told told' flt flt' : Int32) : Prop := (told = 6 ∧ v = -5 ∧ told' = told ∧ flt' = flt) ∨ (¬ told = 6 ∧ ∃ b : Bool, txR false t sz.toInt.toNat b flt' ∧ ((b = false ∧ v = -6 ∧ told' = told) ∨ (b = true ∧ v = told ∧ told'.toInt = told.toInt + 1)))
/-- what orders does to FAULT -/
def ordP (t : Nat → Int32) (sz flt' : Int32) : Prop := ∃ b : Bool, txR true t sz.toInt.toNat b flt'
theorem pcT_nn {t : Nat → Int32} {S i : Nat} (hS : S ≤ 400) : ¬ pcT t S i = -1 := by
  have h := plT_le (t := t) (S := S) i
  have w : ∀ q : Nat, q < 401 → ¬ Int32.ofNat q = -1 := by decide +kernel
  exact w _ (by omega)
theorem txR_n {o : Bool} {t : Nat → Int32} {S : Nat} {b : Bool} {p : Int32} (h : txR o t S b p) (q : ¬ p = -1) : b = false := by
  obtain ⟨N, j, -, -, -, e⟩ := h
  cases b with
  | false => rfl
  | true => exact absurd (e.trans (if_pos rfl)) q
theorem txR_y {o : Bool} {t : Nat → Int32} {S : Nat} {b : Bool} {p : Int32} (h : txR o t S b p) (hS : S ≤ 400) (q : p = -1) : b = true := by
  obtain ⟨N, j, -, -, -, e⟩ := h
  cases b with
  | true => rfl
  | false => exact absurd ((e.trans (if_neg (by decide))).symm.trans q) (pcT_nn hS)
/-- law of the class: room by the number's bounds -/
def lawPx (t : Nat → Int32) (sz v told told' flt flt' : Int32) : Prop := (¬ (0 ≤ told.toInt ∧ told.toInt ≤ 5) ∧ v = -5 ∧ told' = told ∧ flt' = flt) ∨ ((0 ≤ told.toInt ∧ told.toInt ≤ 5) ∧ ∃ b : Bool, txR false t sz.toInt.toNat b flt' ∧ ((b = false ∧ v = -6 ∧ told' = told) ∨ (b = true ∧ v = told ∧ told'.toInt = told.toInt + 1)))
theorem law_eq {t : Nat → Int32} {sz v v2 told n n2 flt flt' flt2 : Int32} (hb : kb 0 told 6) (h1 : lawPx t sz v told n flt flt') (h2 : lawP t sz v2 told n2 flt flt2) : v = v2 ∧ n = n2 ∧ flt' = flt2 := by
  have e6 : (6 : Int32).toInt = 6 := by decide +kernel
  have b1 := hb.1
  have b2 := hb.2
  rcases h1 with ⟨a1, a2, a3, a4⟩ | ⟨a1, b, a2, a3⟩ <;> rcases h2 with ⟨c1, c2, c3, c4⟩ | ⟨c1, b', c2, c3⟩
  · exact ⟨a2.trans c2.symm, a3.trans c3.symm, a4.trans c4.symm⟩
  · exact absurd (Int32.toInt_inj.mp (by omega)) c1
  · rw [c1, e6] at a1; omega
  · obtain ⟨eb, ep⟩ := txR_det a2 c2
    subst eb
    rcases a3 with ⟨d1, d2, d3⟩ | ⟨d1, d2, d3⟩ <;> rcases c3 with ⟨f1, f2, f3⟩ | ⟨f1, f2, f3⟩
    · exact ⟨d2.trans f2.symm, d3.trans f3.symm, ep⟩
    · rw [d1] at f1; cases f1
    · rw [d1] at f1; cases f1
    · exact ⟨d2.trans f2.symm, Int32.toInt_inj.mp (by omega), ep⟩
theorem ord_eq {t : Nat → Int32} {sz p q : Int32} (h1 : ordP t sz p) (h2 : ordP t sz q) : p = q := by
  obtain ⟨b, h1⟩ := h1
  obtain ⟨b', h2⟩ := h2
  exact (txR_det h1 h2).2
theorem frc_eq {x v v2 told frc n n2 : Int32} (h1 : frcP x v told frc n) (h2 : frcP x v2 told frc n2) : v = v2 ∧ n = n2 := by
  rcases h1 with ⟨a1, a2, a3⟩ | ⟨a1, a2, a3⟩ <;> rcases h2 with ⟨c1, c2, c3⟩ | ⟨c1, c2, c3⟩
  · exact ⟨a1.trans c1.symm, a3.trans c3.symm⟩
  · exact absurd c2 a2
  · exact absurd a2 c2
  · exact ⟨a1.trans c1.symm, a3.trans c3.symm⟩
theorem dX12_readsAs_0 : decode cX12_readsAs 0 = .ok (.aload_n 0, 1) := by decide +kernel
theorem dX12_readsAs_1 : decode cX12_readsAs 1 = .ok (.iload_n 1, 1) := by decide +kernel
theorem dX12_readsAs_2 : decode cX12_readsAs 2 = .ok (.putfield 191, 3) := by decide +kernel
theorem dX12_readsAs_5 : decode cX12_readsAs 5 = .ok (.aload_n 0, 1) := by decide +kernel
theorem dX12_readsAs_6 : decode cX12_readsAs 6 = .ok (.iload_n 1, 1) := by decide +kernel
theorem dX12_readsAs_7 : decode cX12_readsAs 7 = .ok (.ifCond .eq 8, 3) := by decide +kernel
theorem dX12_readsAs_10 : decode cX12_readsAs 10 = .ok (.bipush 16, 2) := by decide +kernel
theorem dX12_readsAs_12 : decode cX12_readsAs 12 = .ok (.goto 5, 3) := by decide +kernel
theorem dX12_readsAs_15 : decode cX12_readsAs 15 = .ok (.bipush 9, 2) := by decide +kernel
theorem dX12_readsAs_17 : decode cX12_readsAs 17 = .ok (.putfield 217, 3) := by decide +kernel
theorem dX12_readsAs_20 : decode cX12_readsAs 20 = .ok (.aload_n 0, 1) := by decide +kernel
theorem dX12_readsAs_21 : decode cX12_readsAs 21 = .ok (.iload_n 1, 1) := by decide +kernel
theorem dX12_readsAs_22 : decode cX12_readsAs 22 = .ok (.ifCond .eq 8, 3) := by decide +kernel
theorem dX12_readsAs_25 : decode cX12_readsAs 25 = .ok (.bipush 22, 2) := by decide +kernel
theorem dX12_readsAs_27 : decode cX12_readsAs 27 = .ok (.goto 5, 3) := by decide +kernel
theorem dX12_readsAs_30 : decode cX12_readsAs 30 = .ok (.bipush 18, 2) := by decide +kernel
theorem dX12_readsAs_32 : decode cX12_readsAs 32 = .ok (.putfield 220, 3) := by decide +kernel
theorem dX12_readsAs_35 : decode cX12_readsAs 35 = .ok (.aload_n 0, 1) := by decide +kernel
theorem dX12_readsAs_36 : decode cX12_readsAs 36 = .ok (.invokevirtual 232, 3) := by decide +kernel
theorem dX12_readsAs_39 : decode cX12_readsAs 39 = .ok (.ireturn, 1) := by decide +kernel
theorem dX12_law_0 : decode cX12_law 0 = .ok (.aload_n 0, 1) := by decide +kernel
theorem dX12_law_1 : decode cX12_law 1 = .ok (.getfield 24, 3) := by decide +kernel
theorem dX12_law_4 : decode cX12_law 4 = .ok (.bipush 105, 2) := by decide +kernel
theorem dX12_law_6 : decode cX12_law 6 = .ok (.iaload, 1) := by decide +kernel
theorem dX12_law_7 : decode cX12_law 7 = .ok (.bipush 6, 2) := by decide +kernel
theorem dX12_law_9 : decode cX12_law 9 = .ok (.if_icmp .ne 15, 3) := by decide +kernel
theorem dX12_law_12 : decode cX12_law 12 = .ok (.aload_n 0, 1) := by decide +kernel
theorem dX12_law_13 : decode cX12_law 13 = .ok (.iconst 0, 1) := by decide +kernel
theorem dX12_law_14 : decode cX12_law 14 = .ok (.putfield 138, 3) := by decide +kernel
theorem dX12_law_17 : decode cX12_law 17 = .ok (.aload_n 0, 1) := by decide +kernel
theorem dX12_law_18 : decode cX12_law 18 = .ok (.bipush (-5), 2) := by decide +kernel
theorem dX12_law_20 : decode cX12_law 20 = .ok (.invokevirtual 100, 3) := by decide +kernel
theorem dX12_law_23 : decode cX12_law 23 = .ok (.ireturn, 1) := by decide +kernel
theorem dX12_law_24 : decode cX12_law 24 = .ok (.aload_n 0, 1) := by decide +kernel
theorem dX12_law_25 : decode cX12_law 25 = .ok (.iconst 0, 1) := by decide +kernel
theorem dX12_law_26 : decode cX12_law 26 = .ok (.invokevirtual 235, 3) := by decide +kernel
theorem dX12_law_29 : decode cX12_law 29 = .ok (.ifCond .ne 10, 3) := by decide +kernel
theorem dX12_law_32 : decode cX12_law 32 = .ok (.aload_n 0, 1) := by decide +kernel
theorem dX12_law_33 : decode cX12_law 33 = .ok (.bipush (-6), 2) := by decide +kernel
theorem dX12_law_35 : decode cX12_law 35 = .ok (.invokevirtual 100, 3) := by decide +kernel
theorem dX12_law_38 : decode cX12_law 38 = .ok (.ireturn, 1) := by decide +kernel
theorem dX12_law_39 : decode cX12_law 39 = .ok (.aload_n 0, 1) := by decide +kernel
theorem dX12_law_40 : decode cX12_law 40 = .ok (.aload_n 0, 1) := by decide +kernel
theorem dX12_law_41 : decode cX12_law 41 = .ok (.getfield 24, 3) := by decide +kernel
theorem dX12_law_44 : decode cX12_law 44 = .ok (.bipush 105, 2) := by decide +kernel
theorem dX12_law_46 : decode cX12_law 46 = .ok (.iaload, 1) := by decide +kernel
theorem dX12_law_47 : decode cX12_law 47 = .ok (.invokevirtual 239, 3) := by decide +kernel
theorem dX12_law_50 : decode cX12_law 50 = .ok (.aload_n 0, 1) := by decide +kernel
theorem dX12_law_51 : decode cX12_law 51 = .ok (.getfield 24, 3) := by decide +kernel
theorem dX12_law_54 : decode cX12_law 54 = .ok (.bipush 105, 2) := by decide +kernel
theorem dX12_law_56 : decode cX12_law 56 = .ok (.dup2, 1) := by decide +kernel
theorem dX12_law_57 : decode cX12_law 57 = .ok (.iaload, 1) := by decide +kernel
theorem dX12_law_58 : decode cX12_law 58 = .ok (.iconst 1, 1) := by decide +kernel
theorem dX12_law_59 : decode cX12_law 59 = .ok (.iadd, 1) := by decide +kernel
theorem dX12_law_60 : decode cX12_law 60 = .ok (.iastore, 1) := by decide +kernel
theorem dX12_law_61 : decode cX12_law 61 = .ok (.aload_n 0, 1) := by decide +kernel
theorem dX12_law_62 : decode cX12_law 62 = .ok (.aload_n 0, 1) := by decide +kernel
theorem dX12_law_63 : decode cX12_law 63 = .ok (.getfield 24, 3) := by decide +kernel
theorem dX12_law_66 : decode cX12_law 66 = .ok (.bipush 105, 2) := by decide +kernel
theorem dX12_law_68 : decode cX12_law 68 = .ok (.iaload, 1) := by decide +kernel
theorem dX12_law_69 : decode cX12_law 69 = .ok (.iconst 1, 1) := by decide +kernel
theorem dX12_law_70 : decode cX12_law 70 = .ok (.isub, 1) := by decide +kernel
theorem dX12_law_71 : decode cX12_law 71 = .ok (.invokevirtual 14, 3) := by decide +kernel
theorem dX12_law_74 : decode cX12_law 74 = .ok (.ireturn, 1) := by decide +kernel
theorem wt6_173 : Cond.methodLink RX12 232 yX12_reads ∈ kG := kt6 173 rfl rfl
theorem wt6_175 : Cond.instanceMethod yX12_reads ∈ kG := kt6 175 rfl rfl
theorem wp4_1 : Cond.selects RX12 yX12_reads yX12_reads ∈ kG := kp4 1 rfl rfl
theorem wt6_176 : Cond.code yX12_reads cX12_reads 2 (some .boolean) ∈ kG := kt6 176 rfl rfl
theorem wt6_169 : Cond.methodLink RX12 235 yX12_readsAs ∈ kG := kt6 169 rfl rfl
theorem wt6_171 : Cond.instanceMethod yX12_readsAs ∈ kG := kt6 171 rfl rfl
theorem wp4_0 : Cond.selects RX12 yX12_readsAs yX12_readsAs ∈ kG := kp4 0 rfl rfl
theorem wt6_172 : Cond.code yX12_readsAs cX12_readsAs 2 (some .boolean) ∈ kG := kt6 172 rfl rfl
theorem wt7_15 : Cond.methodLink RX12 239 yX12_lays ∈ kG := kt7 15 rfl rfl
theorem wt7_17 : Cond.instanceMethod yX12_lays ∈ kG := kt7 17 rfl rfl
theorem wp5_3 : Cond.selects RX12 yX12_lays yX12_lays ∈ kG := kp5 3 rfl rfl
theorem wt7_18 : Cond.code yX12_lays cX12_lays 3 none ∈ kG := kt7 18 rfl rfl
set_option maxHeartbeats 4000000 in
set_option maxRecDepth 100000 in
theorem q_readsAs  (l : Launch) {D : va_G} {K : Nat → ClassId} (o : Nat) (r : Nat → Nat) (f : Nat → Int32) (a : Nat → Nat → Int32) (g : Nat → Int64) (hI : mI f a) (x : Int32) (bx : kb 0 x 1)   : kI l yX12_readsAs (Cond.code yX12_readsAs cX12_readsAs 2 (some .boolean) :: kG) (rmD 51 0 0) D (tysK K) [.ref o, .int x] (mW K o r f a g) (fun v (u : mS) => kb 0 v 1 ∧ mI u.1 u.2.1 ∧ mF (XR []) f a u.1 u.2.1 ∧ u.1 13 = 0 ∧ (∃ N : Nat, (u.1 18).toInt = (N : Int) ∧ N ≤ 400 ∧ ∀ ob : Bool, x = (if ob = true then 1 else 0) → v = 1 → gG ob (rC (u.2.1 15) N) 8 15 0 N) ∧ u.2.1 11 = a 11 ∧ fE [8, 9, 10, 13, 14, 18, 19, 20, 21] f u.1 ∧ (∀ ob : Bool, x = (if ob = true then 1 else 0) → ∃ b : Bool, txR ob (a 11) (f 13).toInt.toNat b (u.1 14) ∧ v = (if b = true then 1 else 0)) ∧ (∀ N : Nat, (u.1 18).toInt = (N : Int) → rqP u.2.1 (a 11) (f 13).toInt.toNat N) ∧ mZ [8, 9, 10, 13, 14, 18, 19, 20, 21] [15, 16, 17] f a u.1 u.2.1) (fun u => mW K o r u.1 u.2.1 u.2.2) 0 0 := by
  refine kI.of (cc := cX12_readsAs) (maxL := 2) (ret := (some .boolean)) (by decide) rfl (Nat.le_of_ble_eq_true rfl) ?_
  intro p e s m below meth c A hx hb hr hml hown hts hlocks hnm hK hP hD hS hA ls hl
  have hE : mF (XR []) f a f a := mF_rf
  have hZ : mZ [8, 9, 10, 13, 14, 18, 19, 20, 21] [15, 16, 17] f a f a := mZ_rf
  have hg : ∀ w ∈ kG, w.before _ s = true := fun w h => hts w (List.mem_cons_of_mem _ h)
  have hown : s.vm.findClass RX12 = some m.cls := hown
  have hl : lv_has ls 2 [(0, .ref o), (1, .int x)] := hl
  have hk0 : fE [8, 9, 10, 13, 14, 18, 19, 20, 21] f f := fE_rf
  obtain ⟨c13, ec13⟩ : ∃ z : Int32, z = f 13 := ⟨_, rfl⟩
  refine lv_aload_n hx hb dX12_readsAs_0 rfl (lv_at hl 0 rfl) ?_
  refine lv_iload_n hx hb dX12_readsAs_1 rfl (lv_at hl 1 rfl) ?_
  refine va_put (D := D) (ci := 12) (v := .int x) (ty := .boolean) (C := RX12) (T := TX12) (N := 48) hx hb hg inC12 tyX12 tyX12_ok nmX12 hown hK hP hD hS 0 rfl rfl 10 (by decide) (hg _ wt5_170) (fun _ h9 => h9) rfl (by decide +kernel) (kb_bo bx) (kb_fit bx) (Nat.le_of_ble_eq_true rfl) dX12_readsAs_2 (fun H locs hP hD hS => ?_)
  have hP : va_P D vwCl (mW K o r (upd f 10 x) a g) H := hP
  have hD : va_D A (mW K o r (upd f 10 x) a g) := hD
  refine k_gen (P := fun z => va_P D vwCl (mW K o r z a g) H ∧ va_D A (mW K o r z a g) ∧ (mI z a) ∧ (mF (XR []) f a z a) ∧ (mZ [8, 9, 10, 13, 14, 18, 19, 20, 21] [15, 16, 17] f a z a) ∧ (fE [8, 9, 10, 13, 14, 18, 19, 20, 21] f z)) (upd f 10 x) ⟨hP, hD, (mI_f hI (fI_st hI.1 10 bx (by decide) (by decide))), (mF_f hE), (mZ_f hZ rfl), (fE_f hk0 (by decide))⟩ (fun f_1 ef_1 hq => ?_)
  obtain ⟨hP, hD, hI, hE, hZ, hk0⟩ := hq
  refine lv_aload_n hx hb dX12_readsAs_5 rfl (lv_at hl 0 rfl) ?_
  refine lv_iload_n hx hb dX12_readsAs_6 rfl (lv_at hl 1 rfl) ?_
  refine lv_if_eq (tgt := 15) hx hb dX12_readsAs_7 (by decide) (fun c2 => ?_) (fun c2 => ?_)
  · have b3 : kb 0 x 0 := kb_eq c2 kc_0
    refine lv_bipush (v := 9) hx hb dX12_readsAs_15 (by decide) ?_
    refine va_put (D := D) (ci := 12) (v := .int 9) (ty := .int) (C := RX12) (T := TX12) (N := 48) hx hb hg inC12 tyX12 tyX12_ok nmX12 hown hK hP hD hS 0 rfl rfl 8 (by decide) (hg _ wt5_168) (fun _ h9 => h9) rfl (by decide +kernel) rfl rfl (Nat.le_of_ble_eq_true rfl) dX12_readsAs_17 (fun H locs hP hD hS => ?_)
    have hP : va_P D vwCl (mW K o r (upd f_1 8 9) a g) H := hP
    have hD : va_D A (mW K o r (upd f_1 8 9) a g) := hD
    refine k_gen (P := fun z => va_P D vwCl (mW K o r z a g) H ∧ va_D A (mW K o r z a g) ∧ (mI z a) ∧ (mF (XR []) f a z a) ∧ (mZ [8, 9, 10, 13, 14, 18, 19, 20, 21] [15, 16, 17] f a z a) ∧ (fE [8, 9, 10, 13, 14, 18, 19, 20, 21] f z)) (upd f_1 8 9) ⟨hP, hD, (mI_f hI (fI_st hI.1 8 (kb_any _) (by decide) (by decide))), (mF_f hE), (mZ_f hZ rfl), (fE_f hk0 (by decide))⟩ (fun f_4 ef_4 hq => ?_)
    obtain ⟨hP, hD, hI, hE, hZ, hk0⟩ := hq
    refine lv_aload_n hx hb dX12_readsAs_20 rfl (lv_at hl 0 rfl) ?_
    refine lv_iload_n hx hb dX12_readsAs_21 rfl (lv_at hl 1 rfl) ?_
    refine lv_if_eq (tgt := 30) hx hb dX12_readsAs_22 (by decide) (fun c5 => ?_) (fun c5 => ?_)
    · refine lv_bipush (v := 18) hx hb dX12_readsAs_30 (by decide) ?_
      refine va_put (D := D) (ci := 12) (v := .int 18) (ty := .int) (C := RX12) (T := TX12) (N := 48) hx hb hg inC12 tyX12 tyX12_ok nmX12 hown hK hP hD hS 0 rfl rfl 9 (by decide) (hg _ wt5_169) (fun _ h9 => h9) rfl (by decide +kernel) rfl rfl (Nat.le_of_ble_eq_true rfl) dX12_readsAs_32 (fun H locs hP hD hS => ?_)
      have hP : va_P D vwCl (mW K o r (upd f_4 9 18) a g) H := hP
      have hD : va_D A (mW K o r (upd f_4 9 18) a g) := hD
      refine k_gen (P := fun z => va_P D vwCl (mW K o r z a g) H ∧ va_D A (mW K o r z a g) ∧ (mI z a) ∧ (mF (XR []) f a z a) ∧ (mZ [8, 9, 10, 13, 14, 18, 19, 20, 21] [15, 16, 17] f a z a) ∧ (fE [8, 9, 10, 13, 14, 18, 19, 20, 21] f z)) (upd f_4 9 18) ⟨hP, hD, (mI_f hI (fI_st hI.1 9 (kb_any _) (by decide) (by decide))), (mF_f hE), (mZ_f hZ rfl), (fE_f hk0 (by decide))⟩ (fun f_6 ef_6 hq => ?_)
      obtain ⟨hP, hD, hI, hE, hZ, hk0⟩ := hq
      refine lv_aload_n hx hb dX12_readsAs_35 rfl (lv_at hl 0 rfl) ?_
      have hx01 : x = 0 := kb_zero b3
      have h13 : f_6 13 = f 13 := (((show f_6 13 = f_4 13 from by rw [← ef_6]; rfl).trans ((show f_4 13 = f_1 13 from by rw [← ef_4]; rfl).trans ((show f_1 13 = f 13 from by rw [← ef_1]; rfl).trans ec13.symm)))).trans ec13
      refine kI.callV (As := []) (rest := []) ⟨hx, hb, hml, hown, hg⟩ (q_reads l o r f_6 a g hI   false ((((show f_6 10 = f_4 10 from by rw [← ef_6]; rfl).trans ((show f_4 10 = f_1 10 from by rw [← ef_4]; rfl).trans (show f_1 10 = x from by rw [← ef_1]; rfl)))).trans hx01) ((show f_6 8 = f_4 8 from by rw [← ef_6]; rfl).trans (show f_4 8 = 9 from by rw [← ef_4]; rfl)) (show f_6 9 = 18 from by rw [← ef_6]; rfl)) (cwV 0 hg (kgV wt6_173 wt6_175 wp4_1 wt1_14 wt6_176) rfl rfl rfl (by decide +kernel) ⟨by decide, by decide⟩) hK hP hD hS hA mIs [] rfl (wr := []) rfl rfl rfl (fun i h => by cases h) 0 12 rfl rfl rfl hl.1 rfl (Nat.le_of_ble_eq_true rfl) dX12_readsAs_36 ⟨Nat.le_refl _, Nat.le_refl _⟩ (fun v8 u9 H locs hw7 hP hD hS => ?_)
      obtain ⟨f10, a11, g12⟩ := u9
      have hP : va_P D vwCl (mW K o r f10 a11 g12) H := hP
      have hD : va_D A (mW K o r f10 a11 g12) := hD
      have hI : mI f10 a11 := hw7.2.1
      have hE : mF (XR []) f a f10 a11 := mF_tr hE hw7.2.2.1
      have eE13 : mF (XR []) f_6 a f10 a11 := hw7.2.2.1
      have eZ14 : mZ [13, 14, 18, 19, 20, 21] [15, 16, 17] f_6 a f10 a11 := hw7.2.2.2.2.2.2.2.2
      have hZ : mZ [8, 9, 10, 13, 14, 18, 19, 20, 21] [15, 16, 17] f a f10 a11 := mZ_tr hZ (mZ_w (by decide) (by decide) eZ14)
      have hk0 : fE [8, 9, 10, 13, 14, 18, 19, 20, 21] f f10 := fE_tr hk0 (fE_w (by decide) hw7.2.2.2.2.2.2.1)
      obtain ⟨N9, b9, hN91, hN92, htx9, hvb9, hgg9⟩ := hw7.2.2.2.2.1
      rw [h13] at htx9
      have hrq := hw7.2.2.2.2.2.2.2.1
      rw [h13] at hrq
      exact kI_ret (v := v8) hx hb hr hlocks (kb_bo hw7.1) hK hS dX12_readsAs_39 (f10, a11, g12) hP hD ⟨hw7.1, hI, hE, hw7.2.2.2.1, ⟨N9, hN91, hN92, fun ob hob hv => by cases ob with | false => exact hgg9 (bv_1 hvb9 hv) | true => exact absurd (hob.symm.trans hx01) (by decide +kernel)⟩, hw7.2.2.2.2.2.1, hk0, (fun ob hob => by cases ob with | false => exact ⟨b9, htx9, hvb9⟩ | true => exact absurd (hob.symm.trans hx01) (by decide +kernel)), hrq, hZ⟩
    · exact kb_nsame c5 b3 kc_0
  · have b15 : kb 1 x 1 := kr_nel c2 bx kc_0 (by decide)
    refine lv_bipush (v := 16) hx hb dX12_readsAs_10 (by decide) ?_
    refine lv_goto (tgt := 17) hx hb dX12_readsAs_12 (by decide) ?_
    refine va_put (D := D) (ci := 12) (v := .int 16) (ty := .int) (C := RX12) (T := TX12) (N := 48) hx hb hg inC12 tyX12 tyX12_ok nmX12 hown hK hP hD hS 0 rfl rfl 8 (by decide) (hg _ wt5_168) (fun _ h9 => h9) rfl (by decide +kernel) rfl rfl (Nat.le_of_ble_eq_true rfl) dX12_readsAs_17 (fun H locs hP hD hS => ?_)
    have hP : va_P D vwCl (mW K o r (upd f_1 8 16) a g) H := hP
    have hD : va_D A (mW K o r (upd f_1 8 16) a g) := hD
    refine k_gen (P := fun z => va_P D vwCl (mW K o r z a g) H ∧ va_D A (mW K o r z a g) ∧ (mI z a) ∧ (mF (XR []) f a z a) ∧ (mZ [8, 9, 10, 13, 14, 18, 19, 20, 21] [15, 16, 17] f a z a) ∧ (fE [8, 9, 10, 13, 14, 18, 19, 20, 21] f z)) (upd f_1 8 16) ⟨hP, hD, (mI_f hI (fI_st hI.1 8 (kb_any _) (by decide) (by decide))), (mF_f hE), (mZ_f hZ rfl), (fE_f hk0 (by decide))⟩ (fun f_16 ef_16 hq => ?_)
    obtain ⟨hP, hD, hI, hE, hZ, hk0⟩ := hq
    refine lv_aload_n hx hb dX12_readsAs_20 rfl (lv_at hl 0 rfl) ?_
    refine lv_iload_n hx hb dX12_readsAs_21 rfl (lv_at hl 1 rfl) ?_
    refine lv_if_eq (tgt := 30) hx hb dX12_readsAs_22 (by decide) (fun c17 => ?_) (fun c17 => ?_)
    · exact kb_dj c17 b15 kc_0 (by decide)
    · refine lv_bipush (v := 22) hx hb dX12_readsAs_25 (by decide) ?_
      refine lv_goto (tgt := 32) hx hb dX12_readsAs_27 (by decide) ?_
      refine va_put (D := D) (ci := 12) (v := .int 22) (ty := .int) (C := RX12) (T := TX12) (N := 48) hx hb hg inC12 tyX12 tyX12_ok nmX12 hown hK hP hD hS 0 rfl rfl 9 (by decide) (hg _ wt5_169) (fun _ h9 => h9) rfl (by decide +kernel) rfl rfl (Nat.le_of_ble_eq_true rfl) dX12_readsAs_32 (fun H locs hP hD hS => ?_)
      have hP : va_P D vwCl (mW K o r (upd f_16 9 22) a g) H := hP
      have hD : va_D A (mW K o r (upd f_16 9 22) a g) := hD
      refine k_gen (P := fun z => va_P D vwCl (mW K o r z a g) H ∧ va_D A (mW K o r z a g) ∧ (mI z a) ∧ (mF (XR []) f a z a) ∧ (mZ [8, 9, 10, 13, 14, 18, 19, 20, 21] [15, 16, 17] f a z a) ∧ (fE [8, 9, 10, 13, 14, 18, 19, 20, 21] f z)) (upd f_16 9 22) ⟨hP, hD, (mI_f hI (fI_st hI.1 9 (kb_any _) (by decide) (by decide))), (mF_f hE), (mZ_f hZ rfl), (fE_f hk0 (by decide))⟩ (fun f_18 ef_18 hq => ?_)
      obtain ⟨hP, hD, hI, hE, hZ, hk0⟩ := hq
      refine lv_aload_n hx hb dX12_readsAs_35 rfl (lv_at hl 0 rfl) ?_
      have hx01 : x = 1 := kb_one b15
      have h13 : f_18 13 = f 13 := (((show f_18 13 = f_16 13 from by rw [← ef_18]; rfl).trans ((show f_16 13 = f_1 13 from by rw [← ef_16]; rfl).trans ((show f_1 13 = f 13 from by rw [← ef_1]; rfl).trans ec13.symm)))).trans ec13
      refine kI.callV (As := []) (rest := []) ⟨hx, hb, hml, hown, hg⟩ (q_reads l o r f_18 a g hI   true ((((show f_18 10 = f_16 10 from by rw [← ef_18]; rfl).trans ((show f_16 10 = f_1 10 from by rw [← ef_16]; rfl).trans (show f_1 10 = x from by rw [← ef_1]; rfl)))).trans hx01) ((show f_18 8 = f_16 8 from by rw [← ef_18]; rfl).trans (show f_16 8 = 16 from by rw [← ef_16]; rfl)) (show f_18 9 = 22 from by rw [← ef_18]; rfl)) (cwV 0 hg (kgV wt6_173 wt6_175 wp4_1 wt1_14 wt6_176) rfl rfl rfl (by decide +kernel) ⟨by decide, by decide⟩) hK hP hD hS hA mIs [] rfl (wr := []) rfl rfl rfl (fun i h => by cases h) 0 12 rfl rfl rfl hl.1 rfl (Nat.le_of_ble_eq_true rfl) dX12_readsAs_36 ⟨Nat.le_refl _, Nat.le_refl _⟩ (fun v20 u21 H locs hw19 hP hD hS => ?_)
      obtain ⟨f22, a23, g24⟩ := u21
      have hP : va_P D vwCl (mW K o r f22 a23 g24) H := hP
      have hD : va_D A (mW K o r f22 a23 g24) := hD
      have hI : mI f22 a23 := hw19.2.1
      have hE : mF (XR []) f a f22 a23 := mF_tr hE hw19.2.2.1
      have eE25 : mF (XR []) f_18 a f22 a23 := hw19.2.2.1
      have eZ26 : mZ [13, 14, 18, 19, 20, 21] [15, 16, 17] f_18 a f22 a23 := hw19.2.2.2.2.2.2.2.2
      have hZ : mZ [8, 9, 10, 13, 14, 18, 19, 20, 21] [15, 16, 17] f a f22 a23 := mZ_tr hZ (mZ_w (by decide) (by decide) eZ26)
      have hk0 : fE [8, 9, 10, 13, 14, 18, 19, 20, 21] f f22 := fE_tr hk0 (fE_w (by decide) hw19.2.2.2.2.2.2.1)
      obtain ⟨N9, b9, hN91, hN92, htx9, hvb9, hgg9⟩ := hw19.2.2.2.2.1
      rw [h13] at htx9
      have hrq := hw19.2.2.2.2.2.2.2.1
      rw [h13] at hrq
      exact kI_ret (v := v20) hx hb hr hlocks (kb_bo hw19.1) hK hS dX12_readsAs_39 (f22, a23, g24) hP hD ⟨hw19.1, hI, hE, hw19.2.2.2.1, ⟨N9, hN91, hN92, fun ob hob hv => by cases ob with | true => exact hgg9 (bv_1 hvb9 hv) | false => exact absurd (hob.symm.trans hx01) (by decide +kernel)⟩, hw19.2.2.2.2.2.1, hk0, (fun ob hob => by cases ob with | true => exact ⟨b9, htx9, hvb9⟩ | false => exact absurd (hob.symm.trans hx01) (by decide +kernel)), hrq, hZ⟩