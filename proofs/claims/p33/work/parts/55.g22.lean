theorem bv_1 {b : Bool} {v : Int32} (e : v = (if b = true then 1 else 0)) (h : v = 1) : b = true := by
  cases b with
  | true => rfl
  | false => exact absurd (e.symm.trans h) (by decide +kernel)
theorem bv_0 {b : Bool} {v : Int32} (e : v = (if b = true then 1 else 0)) (h : ¬ v = 1) : b = false := by
  cases b with
  | true => exact absurd (e.trans (if_pos rfl)) h
  | false => rfl
/-- what law answers, what it does to the number of LAWS and to FAULT -/
def lawP (t : Nat → Int32) (sz v told told' flt flt' : Int32) : Prop := (told = 6 ∧ v = -5 ∧ told' = told ∧ flt' = flt) ∨ (¬ told = 6 ∧ ∃ b : Bool, txR false t sz.toInt.toNat b flt' ∧ ((b = false ∧ v = -6 ∧ told' = told) ∨ (b = true ∧ v = told ∧ told'.toInt = told.toInt + 1)))
/-- what orders does to FAULT -/
def ordP (t : Nat → Int32) (sz flt' : Int32) : Prop := ∃ b : Bool, txR true t sz.toInt.toNat b flt'
theorem pcT_nn {t : Nat → Int32} {S i : Nat} (hS : S ≤ 400) : ¬ pcT t S i = -1 := by
  have h := plT_le (t := t) (S := S) i
  have w : ∀ q : Nat, q < 401 → ¬ Int32.ofNat q = -1 := by decide +kernel
  exact w _ (by omega)
theorem txR_n {o : Bool} {t : Nat → Int32} {S : Nat} {b : Bool} {p : Int32} (h : txR o t S b p) (q : ¬ p = -1) : b = false := by
  obtain ⟨N, j, -, -, -, e⟩ := h
  cases b with
  | false => rfl
  | true => exact absurd (e.trans (if_pos rfl)) q
theorem txR_y {o : Bool} {t : Nat → Int32} {S : Nat} {b : Bool} {p : Int32} (h : txR o t S b p) (hS : S ≤ 400) (q : p = -1) : b = true := by
  obtain ⟨N, j, -, -, -, e⟩ := h
  cases b with
  | true => rfl
  | false => exact absurd ((e.trans (if_neg (by decide))).symm.trans q) (pcT_nn hS)
/-- law of the class: room by the number's bounds -/
def lawPx (t : Nat → Int32) (sz v told told' flt flt' : Int32) : Prop := (¬ (0 ≤ told.toInt ∧ told.toInt ≤ 5) ∧ v = -5 ∧ told' = told ∧ flt' = flt) ∨ ((0 ≤ told.toInt ∧ told.toInt ≤ 5) ∧ ∃ b : Bool, txR false t sz.toInt.toNat b flt' ∧ ((b = false ∧ v = -6 ∧ told' = told) ∨ (b = true ∧ v = told ∧ told'.toInt = told.toInt + 1)))
theorem law_eq {t : Nat → Int32} {sz v v2 told n n2 flt flt' flt2 : Int32} (hb : kb 0 told 6) (h1 : lawPx t sz v told n flt flt') (h2 : lawP t sz v2 told n2 flt flt2) : v = v2 ∧ n = n2 ∧ flt' = flt2 := by
  have e6 : (6 : Int32).toInt = 6 := by decide +kernel
  have b1 := hb.1
  have b2 := hb.2
  rcases h1 with ⟨a1, a2, a3, a4⟩ | ⟨a1, b, a2, a3⟩ <;> rcases h2 with ⟨c1, c2, c3, c4⟩ | ⟨c1, b', c2, c3⟩
  · exact ⟨a2.trans c2.symm, a3.trans c3.symm, a4.trans c4.symm⟩
  · exact absurd (Int32.toInt_inj.mp (by omega)) c1
  · rw [c1, e6] at a1; omega
  · obtain ⟨eb, ep⟩ := txR_det a2 c2
    subst eb
    rcases a3 with ⟨d1, d2, d3⟩ | ⟨d1, d2, d3⟩ <;> rcases c3 with ⟨f1, f2, f3⟩ | ⟨f1, f2, f3⟩
    · exact ⟨d2.trans f2.symm, d3.trans f3.symm, ep⟩
    · rw [d1] at f1; cases f1
    · rw [d1] at f1; cases f1
    · exact ⟨d2.trans f2.symm, Int32.toInt_inj.mp (by omega), ep⟩
theorem ord_eq {t : Nat → Int32} {sz p q : Int32} (h1 : ordP t sz p) (h2 : ordP t sz q) : p = q := by
  obtain ⟨b, h1⟩ := h1
  obtain ⟨b', h2⟩ := h2
  exact (txR_det h1 h2).2
theorem frc_eq {x v v2 told frc n n2 : Int32} (h1 : frcP x v told frc n) (h2 : frcP x v2 told frc n2) : v = v2 ∧ n = n2 := by
  rcases h1 with ⟨a1, a2, a3⟩ | ⟨a1, a2, a3⟩ <;> rcases h2 with ⟨c1, c2, c3⟩ | ⟨c1, c2, c3⟩
  · exact ⟨a1.trans c1.symm, a3.trans c3.symm⟩
  · exact absurd c2 a2
  · exact absurd a2 c2
  · exact ⟨a1.trans c1.symm, a3.trans c3.symm⟩
theorem dX12_readsAs_0 : decode cX12_readsAs 0 = .ok (.aload_n 0, 1) := by decide +kernel
theorem dX12_readsAs_1 : decode cX12_readsAs 1 = .ok (.iload_n 1, 1) := by decide +kernel
theorem dX12_readsAs_2 : decode cX12_readsAs 2 = .ok (.putfield 191, 3) := by decide +kernel
theorem dX12_readsAs_5 : decode cX12_readsAs 5 = .ok (.aload_n 0, 1) := by decide +kernel
theorem dX12_readsAs_6 : decode cX12_readsAs 6 = .ok (.iload_n 1, 1) := by decide +kernel
theorem dX12_readsAs_7 : decode cX12_readsAs 7 = .ok (.ifCond .eq 8, 3) := by decide +kernel
theorem dX12_readsAs_10 : decode cX12_readsAs 10 = .ok (.bipush 16, 2) := by decide +kernel
theorem dX12_readsAs_12 : decode cX12_readsAs 12 = .ok (.goto 5, 3) := by decide +kernel
theorem dX12_readsAs_15 : decode cX12_readsAs 15 = .ok (.bipush 9, 2) := by decide +kernel
theorem dX12_readsAs_17 : decode cX12_readsAs 17 = .ok (.putfield 217, 3) := by decide +kernel
theorem dX12_readsAs_20 : decode cX12_readsAs 20 = .ok (.aload_n 0, 1) := by decide +kernel
theorem dX12_readsAs_21 : decode cX12_readsAs 21 = .ok (.iload_n 1, 1) := by decide +kernel
theorem dX12_readsAs_22 : decode cX12_readsAs 22 = .ok (.ifCond .eq 8, 3) := by decide +kernel
theorem dX12_readsAs_25 : decode cX12_readsAs 25 = .ok (.bipush 22, 2) := by decide +kernel
theorem dX12_readsAs_27 : decode cX12_readsAs 27 = .ok (.goto 5, 3) := by decide +kernel
theorem dX12_readsAs_30 : decode cX12_readsAs 30 = .ok (.bipush 18, 2) := by decide +kernel
theorem dX12_readsAs_32 : decode cX12_readsAs 32 = .ok (.putfield 220, 3) := by decide +kernel
theorem dX12_readsAs_35 : decode cX12_readsAs 35 = .ok (.aload_n 0, 1) := by decide +kernel
theorem dX12_readsAs_36 : decode cX12_readsAs 36 = .ok (.invokevirtual 232, 3) := by decide +kernel
theorem dX12_readsAs_39 : decode cX12_readsAs 39 = .ok (.ireturn, 1) := by decide +kernel
theorem dX12_law_0 : decode cX12_law 0 = .ok (.aload_n 0, 1) := by decide +kernel
theorem dX12_law_1 : decode cX12_law 1 = .ok (.getfield 24, 3) := by decide +kernel
theorem dX12_law_4 : decode cX12_law 4 = .ok (.bipush 105, 2) := by decide +kernel
theorem dX12_law_6 : decode cX12_law 6 = .ok (.iaload, 1) := by decide +kernel
theorem dX12_law_7 : decode cX12_law 7 = .ok (.bipush 6, 2) := by decide +kernel
theorem dX12_law_9 : decode cX12_law 9 = .ok (.if_icmp .ne 15, 3) := by decide +kernel
theorem dX12_law_12 : decode cX12_law 12 = .ok (.aload_n 0, 1) := by decide +kernel
theorem dX12_law_13 : decode cX12_law 13 = .ok (.iconst 0, 1) := by decide +kernel
theorem dX12_law_14 : decode cX12_law 14 = .ok (.putfield 138, 3) := by decide +kernel
theorem dX12_law_17 : decode cX12_law 17 = .ok (.aload_n 0, 1) := by decide +kernel
theorem dX12_law_18 : decode cX12_law 18 = .ok (.bipush (-5), 2) := by decide +kernel
theorem dX12_law_20 : decode cX12_law 20 = .ok (.invokevirtual 100, 3) := by decide +kernel
theorem dX12_law_23 : decode cX12_law 23 = .ok (.ireturn, 1) := by decide +kernel
theorem dX12_law_24 : decode cX12_law 24 = .ok (.aload_n 0, 1) := by decide +kernel
theorem dX12_law_25 : decode cX12_law 25 = .ok (.iconst 0, 1) := by decide +kernel
theorem dX12_law_26 : decode cX12_law 26 = .ok (.invokevirtual 235, 3) := by decide +kernel
theorem dX12_law_29 : decode cX12_law 29 = .ok (.ifCond .ne 10, 3) := by decide +kernel
theorem dX12_law_32 : decode cX12_law 32 = .ok (.aload_n 0, 1) := by decide +kernel
theorem dX12_law_33 : decode cX12_law 33 = .ok (.bipush (-6), 2) := by decide +kernel
theorem dX12_law_35 : decode cX12_law 35 = .ok (.invokevirtual 100, 3) := by decide +kernel
theorem dX12_law_38 : decode cX12_law 38 = .ok (.ireturn, 1) := by decide +kernel
theorem dX12_law_39 : decode cX12_law 39 = .ok (.aload_n 0, 1) := by decide +kernel
theorem dX12_law_40 : decode cX12_law 40 = .ok (.aload_n 0, 1) := by decide +kernel
theorem dX12_law_41 : decode cX12_law 41 = .ok (.getfield 24, 3) := by decide +kernel
theorem dX12_law_44 : decode cX12_law 44 = .ok (.bipush 105, 2) := by decide +kernel
theorem dX12_law_46 : decode cX12_law 46 = .ok (.iaload, 1) := by decide +kernel
theorem dX12_law_47 : decode cX12_law 47 = .ok (.invokevirtual 239, 3) := by decide +kernel
theorem dX12_law_50 : decode cX12_law 50 = .ok (.aload_n 0, 1) := by decide +kernel
theorem dX12_law_51 : decode cX12_law 51 = .ok (.getfield 24, 3) := by decide +kernel
theorem dX12_law_54 : decode cX12_law 54 = .ok (.bipush 105, 2) := by decide +kernel
theorem dX12_law_56 : decode cX12_law 56 = .ok (.dup2, 1) := by decide +kernel
theorem dX12_law_57 : decode cX12_law 57 = .ok (.iaload, 1) := by decide +kernel
theorem dX12_law_58 : decode cX12_law 58 = .ok (.iconst 1, 1) := by decide +kernel
theorem dX12_law_59 : decode cX12_law 59 = .ok (.iadd, 1) := by decide +kernel
theorem dX12_law_60 : decode cX12_law 60 = .ok (.iastore, 1) := by decide +kernel
theorem dX12_law_61 : decode cX12_law 61 = .ok (.aload_n 0, 1) := by decide +kernel
theorem dX12_law_62 : decode cX12_law 62 = .ok (.aload_n 0, 1) := by decide +kernel
theorem dX12_law_63 : decode cX12_law 63 = .ok (.getfield 24, 3) := by decide +kernel
theorem dX12_law_66 : decode cX12_law 66 = .ok (.bipush 105, 2) := by decide +kernel
theorem dX12_law_68 : decode cX12_law 68 = .ok (.iaload, 1) := by decide +kernel
theorem dX12_law_69 : decode cX12_law 69 = .ok (.iconst 1, 1) := by decide +kernel
theorem dX12_law_70 : decode cX12_law 70 = .ok (.isub, 1) := by decide +kernel
theorem dX12_law_71 : decode cX12_law 71 = .ok (.invokevirtual 14, 3) := by decide +kernel
theorem dX12_law_74 : decode cX12_law 74 = .ok (.ireturn, 1) := by decide +kernel
theorem wt6_173 : Cond.methodLink RX12 232 yX12_reads ∈ kG := kt6 173 rfl rfl
theorem wt6_175 : Cond.instanceMethod yX12_reads ∈ kG := kt6 175 rfl rfl
theorem wp4_1 : Cond.selects RX12 yX12_reads yX12_reads ∈ kG := kp4 1 rfl rfl
theorem wt6_176 : Cond.code yX12_reads cX12_reads 2 (some .boolean) ∈ kG := kt6 176 rfl rfl
theorem wt6_169 : Cond.methodLink RX12 235 yX12_readsAs ∈ kG := kt6 169 rfl rfl
theorem wt6_171 : Cond.instanceMethod yX12_readsAs ∈ kG := kt6 171 rfl rfl
theorem wp4_0 : Cond.selects RX12 yX12_readsAs yX12_readsAs ∈ kG := kp4 0 rfl rfl
theorem wt6_172 : Cond.code yX12_readsAs cX12_readsAs 2 (some .boolean) ∈ kG := kt6 172 rfl rfl
theorem wt7_15 : Cond.methodLink RX12 239 yX12_lays ∈ kG := kt7 15 rfl rfl
theorem wt7_17 : Cond.instanceMethod yX12_lays ∈ kG := kt7 17 rfl rfl
theorem wp5_3 : Cond.selects RX12 yX12_lays yX12_lays ∈ kG := kp5 3 rfl rfl
theorem wt7_18 : Cond.code yX12_lays cX12_lays 3 none ∈ kG := kt7 18 rfl rfl
set_option maxHeartbeats 4000000 in
set_option maxRecDepth 100000 in
theorem q_readsAs  (l : Launch) {D : va_G} {K : Nat → ClassId} (o : Nat) (r : Nat → Nat) (f : Nat → Int32) (a : Nat → Nat → Int32) (g : Nat → Int64) (hI : mI f a) (x : Int32) (bx : kb 0 x 1)   : kI l yX12_readsAs (Cond.code yX12_readsAs cX12_readsAs 2 (some .boolean) :: kG) (rmD 51 0 0) D (tysK K) [.ref o, .int x] (mW K o r f a g) (fun v (u : mS) => kb 0 v 1 ∧ mI u.1 u.2.1 ∧ mF (XR []) f a u.1 u.2.1 ∧ u.1 13 = 0 ∧ (∃ N : Nat, (u.1 18).toInt = (N : Int) ∧ N ≤ 400 ∧ ∀ ob : Bool, x = (if ob = true then 1 else 0) → v = 1 → gG ob (rC (u.2.1 15) N) 8 15 0 N) ∧ u.2.1 11 = a 11 ∧ fE [8, 9, 10, 13, 14, 18, 19, 20, 21] f u.1 ∧ (∀ ob : Bool, x = (if ob = true then 1 else 0) → ∃ b : Bool, txR ob (a 11) (f 13).toInt.toNat b (u.1 14) ∧ v = (if b = true then 1 else 0)) ∧ (∀ N : Nat, (u.1 18).toInt = (N : Int) → rqP u.2.1 (a 11) (f 13).toInt.toNat N) ∧ mZ [8, 9, 10, 13, 14, 18, 19, 20, 21] [15, 16, 17] f a u.1 u.2.1) (fun u => mW K o r u.1 u.2.1 u.2.2) 0 0 := by
  refine kI.of (cc := cX12_readsAs) (maxL := 2) (ret := (some .boolean)) (by decide) rfl (Nat.le_of_ble_eq_true rfl) ?_
  intro p e s m below meth c A hx hb hr hml hown hts hlocks hnm hK hP hD hS hA ls hl
  have hE : mF (XR []) f a f a := mF_rf
  have hZ : mZ [8, 9, 10, 13, 14, 18, 19, 20, 21] [15, 16, 17] f a f a := mZ_rf
  have hg : ∀ w ∈ kG, w.before _ s = true := fun w h => hts w (List.mem_cons_of_mem _ h)
  have hown : s.vm.findClass RX12 = some m.cls := hown
  have hl : lv_has ls 2 [(0, .ref o), (1, .int x)] := hl
  have hk0 : fE [8, 9, 10, 13, 14, 18, 19, 20, 21] f f := fE_rf
  obtain ⟨c13, ec13⟩ : ∃ z : Int32, z = f 13 := ⟨_, rfl⟩
  refine lv_aload_n hx hb dX12_readsAs_0 rfl (lv_at hl 0 rfl) ?_
  refine lv_iload_n hx hb dX12_readsAs_1 rfl (lv_at hl 1 rfl) ?_
  refine va_put (D := D) (ci := 12) (v := .int x) (ty := .boolean) (C := RX12) (T := TX12) (N := 48) hx hb hg inC12 tyX12 tyX12_ok nmX12 hown hK hP hD hS 0 rfl rfl 10 (by decide) (hg _ wt5_170) (fun _ h9 => h9) rfl (by decide +kernel) (kb_bo bx) (kb_fit bx) (Nat.le_of_ble_eq_true rfl) dX12_readsAs_2 (fun H locs hP hD hS => ?_)
  have hP : va_P D vwCl (mW K o r (upd f 10 x) a g) H := hP
  have hD : va_D A (mW K o r (upd f 10 x) a g) := hD
  refine k_gen (P := fun z => va_P D vwCl (mW K o r z a g) H ∧ va_D A (mW K o r z a g) ∧ (mI z a) ∧ (mF (XR []) f a z a) ∧ (mZ [8, 9, 10, 13, 14, 18, 19, 20, 21] [15, 16, 17] f a z a) ∧ (fE [8, 9, 10, 13, 14, 18, 19, 20, 21] f z)) (upd f 10 x) ⟨hP, hD, (mI_f hI (fI_st hI.1 10 bx (by decide) (by decide))), (mF_f hE), (mZ_f hZ rfl), (fE_f hk0 (by decide))⟩ (fun f_1 ef_1 hq => ?_)
  obtain ⟨hP, hD, hI, hE, hZ, hk0⟩ := hq
  refine lv_aload_n hx hb dX12_readsAs_5 rfl (lv_at hl 0 rfl) ?_
  refine lv_iload_n hx hb dX12_readsAs_6 rfl (lv_at hl 1 rfl) ?_
  refine lv_if_eq (tgt := 15) hx hb dX12_readsAs_7 (by decide) (fun c2 => ?_) (fun c2 => ?_)
  · have b3 : kb 0 x 0 := kb_eq c2 kc_0
    refine lv_bipush (v := 9) hx hb dX12_readsAs_15 (by decide) ?_
    refine va_put (D := D) (ci := 12) (v := .int 9) (ty := .int) (C := RX12) (T := TX12) (N := 48) hx hb hg inC12 tyX12 tyX12_ok nmX12 hown hK hP hD hS 0 rfl rfl 8 (by decide) (hg _ wt5_168) (fun _ h9 => h9) rfl (by decide +kernel) rfl rfl (Nat.le_of_ble_eq_true rfl) dX12_readsAs_17 (fun H locs hP hD hS => ?_)
    have hP : va_P D vwCl (mW K o r (upd f_1 8 9) a g) H := hP
    have hD : va_D A (mW K o r (upd f_1 8 9) a g) := hD
    refine k_gen (P := fun z => va_P D vwCl (mW K o r z a g) H ∧ va_D A (mW K o r z a g) ∧ (mI z a) ∧ (mF (XR []) f a z a) ∧ (mZ [8, 9, 10, 13, 14, 18, 19, 20, 21] [15, 16, 17] f a z a) ∧ (fE [8, 9, 10, 13, 14, 18, 19, 20, 21] f z)) (upd f_1 8 9) ⟨hP, hD, (mI_f hI (fI_st hI.1 8 (kb_any _) (by decide) (by decide))), (mF_f hE), (mZ_f hZ rfl), (fE_f hk0 (by decide))⟩ (fun f_4 ef_4 hq => ?_)
    obtain ⟨hP, hD, hI, hE, hZ, hk0⟩ := hq
    refine lv_aload_n hx hb dX12_readsAs_20 rfl (lv_at hl 0 rfl) ?_
    refine lv_iload_n hx hb dX12_readsAs_21 rfl (lv_at hl 1 rfl) ?_
    refine lv_if_eq (tgt := 30) hx hb dX12_readsAs_22 (by decide) (fun c5 => ?_) (fun c5 => ?_)
    · refine lv_bipush (v := 18) hx hb dX12_readsAs_30 (by decide) ?_
      refine va_put (D := D) (ci := 12) (v := .int 18) (ty := .int) (C := RX12) (T := TX12) (N := 48) hx hb hg inC12 tyX12 tyX12_ok nmX12 hown hK hP hD hS 0 rfl rfl 9 (by decide) (hg _ wt5_169) (fun _ h9 => h9) rfl (by decide +kernel) rfl rfl (Nat.le_of_ble_eq_true rfl) dX12_readsAs_32 (fun H locs hP hD hS => ?_)
      have hP : va_P D vwCl (mW K o r (upd f_4 9 18) a g) H := hP
      have hD : va_D A (mW K o r (upd f_4 9 18) a g) := hD
      refine k_gen (P := fun z => va_P D vwCl (mW K o r z a g) H ∧ va_D A (mW K o r z a g) ∧ (mI z a) ∧ (mF (XR []) f a z a) ∧ (mZ [8, 9, 10, 13, 14, 18, 19, 20, 21] [15, 16, 17] f a z a) ∧ (fE [8, 9, 10, 13, 14, 18, 19, 20, 21] f z)) (upd f_4 9 18) ⟨hP, hD, (mI_f hI (fI_st hI.1 9 (kb_any _) (by decide) (by decide))), (mF_f hE), (mZ_f hZ rfl), (fE_f hk0 (by decide))⟩ (fun f_6 ef_6 hq => ?_)
      obtain ⟨hP, hD, hI, hE, hZ, hk0⟩ := hq
      refine lv_aload_n hx hb dX12_readsAs_35 rfl (lv_at hl 0 rfl) ?_
      have hx01 : x = 0 := kb_zero b3
      have h13 : f_6 13 = f 13 := (((show f_6 13 = f_4 13 from by rw [← ef_6]; rfl).trans ((show f_4 13 = f_1 13 from by rw [← ef_4]; rfl).trans ((show f_1 13 = f 13 from by rw [← ef_1]; rfl).trans ec13.symm)))).trans ec13
      refine kI.callV (As := []) (rest := []) ⟨hx, hb, hml, hown, hg⟩ (q_reads l o r f_6 a g hI   false ((((show f_6 10 = f_4 10 from by rw [← ef_6]; rfl).trans ((show f_4 10 = f_1 10 from by rw [← ef_4]; rfl).trans (show f_1 10 = x from by rw [← ef_1]; rfl)))).trans hx01) ((show f_6 8 = f_4 8 from by rw [← ef_6]; rfl).trans (show f_4 8 = 9 from by rw [← ef_4]; rfl)) (show f_6 9 = 18 from by rw [← ef_6]; rfl)) (cwV 0 hg (kgV wt6_173 wt6_175 wp4_1 wt1_14 wt6_176) rfl rfl rfl (by decide +kernel) ⟨by decide, by decide⟩) hK hP hD hS hA mIs [] rfl (wr := []) rfl rfl rfl (fun i h => by cases h) 0 12 rfl rfl rfl hl.1 rfl (Nat.le_of_ble_eq_true rfl) dX12_readsAs_36 ⟨Nat.le_refl _, Nat.le_refl _⟩ (fun v8 u9 H locs hw7 hP hD hS => ?_)
      obtain ⟨f10, a11, g12⟩ := u9
      have hP : va_P D vwCl (mW K o r f10 a11 g12) H := hP
      have hD : va_D A (mW K o r f10 a11 g12) := hD
      have hI : mI f10 a11 := hw7.2.1
      have hE : mF (XR []) f a f10 a11 := mF_tr hE hw7.2.2.1
      have eE13 : mF (XR []) f_6 a f10 a11 := hw7.2.2.1
      have eZ14 : mZ [13, 14, 18, 19, 20, 21] [15, 16, 17] f_6 a f10 a11 := hw7.2.2.2.2.2.2.2.2
      have hZ : mZ [8, 9, 10, 13, 14, 18, 19, 20, 21] [15, 16, 17] f a f10 a11 := mZ_tr hZ (mZ_w (by decide) (by decide) eZ14)
      have hk0 : fE [8, 9, 10, 13, 14, 18, 19, 20, 21] f f10 := fE_tr hk0 (fE_w (by decide) hw7.2.2.2.2.2.2.1)
      obtain ⟨N9, b9, hN91, hN92, htx9, hvb9, hgg9⟩ := hw7.2.2.2.2.1
      rw [h13] at htx9
      have hrq := hw7.2.2.2.2.2.2.2.1
      rw [h13] at hrq
      exact kI_ret (v := v8) hx hb hr hlocks (kb_bo hw7.1) hK hS dX12_readsAs_39 (f10, a11, g12) hP hD ⟨hw7.1, hI, hE, hw7.2.2.2.1, ⟨N9, hN91, hN92, fun ob hob hv => by cases ob with | false => exact hgg9 (bv_1 hvb9 hv) | true => exact absurd (hob.symm.trans hx01) (by decide +kernel)⟩, hw7.2.2.2.2.2.1, hk0, (fun ob hob => by cases ob with | false => exact ⟨b9, htx9, hvb9⟩ | true => exact absurd (hob.symm.trans hx01) (by decide +kernel)), hrq, hZ⟩
    · exact kb_nsame c5 b3 kc_0
  · have b15 : kb 1 x 1 := kr_nel c2 bx kc_0 (by decide)
    refine lv_bipush (v := 16) hx hb dX12_readsAs_10 (by decide) ?_
    refine lv_goto (tgt := 17) hx hb dX12_readsAs_12 (by decide) ?_
    refine va_put (D := D) (ci := 12) (v := .int 16) (ty := .int) (C := RX12) (T := TX12) (N := 48) hx hb hg inC12 tyX12 tyX12_ok nmX12 hown hK hP hD hS 0 rfl rfl 8 (by decide) (hg _ wt5_168) (fun _ h9 => h9) rfl (by decide +kernel) rfl rfl (Nat.le_of_ble_eq_true rfl) dX12_readsAs_17 (fun H locs hP hD hS => ?_)
    have hP : va_P D vwCl (mW K o r (upd f_1 8 16) a g) H := hP
    have hD : va_D A (mW K o r (upd f_1 8 16) a g) := hD
    refine k_gen (P := fun z => va_P D vwCl (mW K o r z a g) H ∧ va_D A (mW K o r z a g) ∧ (mI z a) ∧ (mF (XR []) f a z a) ∧ (mZ [8, 9, 10, 13, 14, 18, 19, 20, 21] [15, 16, 17] f a z a) ∧ (fE [8, 9, 10, 13, 14, 18, 19, 20, 21] f z)) (upd f_1 8 16) ⟨hP, hD, (mI_f hI (fI_st hI.1 8 (kb_any _) (by decide) (by decide))), (mF_f hE), (mZ_f hZ rfl), (fE_f hk0 (by decide))⟩ (fun f_16 ef_16 hq => ?_)
    obtain ⟨hP, hD, hI, hE, hZ, hk0⟩ := hq
    refine lv_aload_n hx hb dX12_readsAs_20 rfl (lv_at hl 0 rfl) ?_
    refine lv_iload_n hx hb dX12_readsAs_21 rfl (lv_at hl 1 rfl) ?_
    refine lv_if_eq (tgt := 30) hx hb dX12_readsAs_22 (by decide) (fun c17 => ?_) (fun c17 => ?_)
    · exact kb_dj c17 b15 kc_0 (by decide)
    · refine lv_bipush (v := 22) hx hb dX12_readsAs_25 (by decide) ?_
      refine lv_goto (tgt := 32) hx hb dX12_readsAs_27 (by decide) ?_
      refine va_put (D := D) (ci := 12) (v := .int 22) (ty := .int) (C := RX12) (T := TX12) (N := 48) hx hb hg inC12 tyX12 tyX12_ok nmX12 hown hK hP hD hS 0 rfl rfl 9 (by decide) (hg _ wt5_169) (fun _ h9 => h9) rfl (by decide +kernel) rfl rfl (Nat.le_of_ble_eq_true rfl) dX12_readsAs_32 (fun H locs hP hD hS => ?_)
      have hP : va_P D vwCl (mW K o r (upd f_16 9 22) a g) H := hP
      have hD : va_D A (mW K o r (upd f_16 9 22) a g) := hD
      refine k_gen (P := fun z => va_P D vwCl (mW K o r z a g) H ∧ va_D A (mW K o r z a g) ∧ (mI z a) ∧ (mF (XR []) f a z a) ∧ (mZ [8, 9, 10, 13, 14, 18, 19, 20, 21] [15, 16, 17] f a z a) ∧ (fE [8, 9, 10, 13, 14, 18, 19, 20, 21] f z)) (upd f_16 9 22) ⟨hP, hD, (mI_f hI (fI_st hI.1 9 (kb_any _) (by decide) (by decide))), (mF_f hE), (mZ_f hZ rfl), (fE_f hk0 (by decide))⟩ (fun f_18 ef_18 hq => ?_)
      obtain ⟨hP, hD, hI, hE, hZ, hk0⟩ := hq
      refine lv_aload_n hx hb dX12_readsAs_35 rfl (lv_at hl 0 rfl) ?_
      have hx01 : x = 1 := kb_one b15
      have h13 : f_18 13 = f 13 := (((show f_18 13 = f_16 13 from by rw [← ef_18]; rfl).trans ((show f_16 13 = f_1 13 from by rw [← ef_16]; rfl).trans ((show f_1 13 = f 13 from by rw [← ef_1]; rfl).trans ec13.symm)))).trans ec13
      refine kI.callV (As := []) (rest := []) ⟨hx, hb, hml, hown, hg⟩ (q_reads l o r f_18 a g hI   true ((((show f_18 10 = f_16 10 from by rw [← ef_18]; rfl).trans ((show f_16 10 = f_1 10 from by rw [← ef_16]; rfl).trans (show f_1 10 = x from by rw [← ef_1]; rfl)))).trans hx01) ((show f_18 8 = f_16 8 from by rw [← ef_18]; rfl).trans (show f_16 8 = 16 from by rw [← ef_16]; rfl)) (show f_18 9 = 22 from by rw [← ef_18]; rfl)) (cwV 0 hg (kgV wt6_173 wt6_175 wp4_1 wt1_14 wt6_176) rfl rfl rfl (by decide +kernel) ⟨by decide, by decide⟩) hK hP hD hS hA mIs [] rfl (wr := []) rfl rfl rfl (fun i h => by cases h) 0 12 rfl rfl rfl hl.1 rfl (Nat.le_of_ble_eq_true rfl) dX12_readsAs_36 ⟨Nat.le_refl _, Nat.le_refl _⟩ (fun v20 u21 H locs hw19 hP hD hS => ?_)
      obtain ⟨f22, a23, g24⟩ := u21
      have hP : va_P D vwCl (mW K o r f22 a23 g24) H := hP
      have hD : va_D A (mW K o r f22 a23 g24) := hD
      have hI : mI f22 a23 := hw19.2.1
      have hE : mF (XR []) f a f22 a23 := mF_tr hE hw19.2.2.1
      have eE25 : mF (XR []) f_18 a f22 a23 := hw19.2.2.1
      have eZ26 : mZ [13, 14, 18, 19, 20, 21] [15, 16, 17] f_18 a f22 a23 := hw19.2.2.2.2.2.2.2.2
      have hZ : mZ [8, 9, 10, 13, 14, 18, 19, 20, 21] [15, 16, 17] f a f22 a23 := mZ_tr hZ (mZ_w (by decide) (by decide) eZ26)
      have hk0 : fE [8, 9, 10, 13, 14, 18, 19, 20, 21] f f22 := fE_tr hk0 (fE_w (by decide) hw19.2.2.2.2.2.2.1)
      obtain ⟨N9, b9, hN91, hN92, htx9, hvb9, hgg9⟩ := hw19.2.2.2.2.1
      rw [h13] at htx9
      have hrq := hw19.2.2.2.2.2.2.2.1
      rw [h13] at hrq
      exact kI_ret (v := v20) hx hb hr hlocks (kb_bo hw19.1) hK hS dX12_readsAs_39 (f22, a23, g24) hP hD ⟨hw19.1, hI, hE, hw19.2.2.2.1, ⟨N9, hN91, hN92, fun ob hob hv => by cases ob with | true => exact hgg9 (bv_1 hvb9 hv) | false => exact absurd (hob.symm.trans hx01) (by decide +kernel)⟩, hw19.2.2.2.2.2.1, hk0, (fun ob hob => by cases ob with | true => exact ⟨b9, htx9, hvb9⟩ | false => exact absurd (hob.symm.trans hx01) (by decide +kernel)), hrq, hZ⟩
set_option maxHeartbeats 4000000 in
set_option maxRecDepth 100000 in
theorem q_law  (l : Launch) {D : va_G} {K : Nat → ClassId} (o : Nat) (r : Nat → Nat) (f : Nat → Int32) (a : Nat → Nat → Int32) (g : Nat → Int64) (hI : mI f a)     : kI l yX12_law (Cond.code yX12_law cX12_law 1 (some .int) :: kG) (rmD 52 0 0) D (tysK K) [.ref o] (mW K o r f a g) (fun v (u : mS) => kb (-2147483648) v 2147483647 ∧ mI u.1 u.2.1 ∧ mF (XR [(105, 106), (107, 6000)]) f a u.1 u.2.1 ∧ u.1 13 = 0 ∧ u.1 6 = f 6 ∧ u.2.1 11 = a 11 ∧ lawP (a 11) (f 13) v (a 2 105) (u.2.1 2 105) (f 14) (u.1 14) ∧ mZ [0, 8, 9, 10, 13, 14, 18, 19, 20, 21] [1, 2, 15, 16, 17] f a u.1 u.2.1) (fun u => mW K o r u.1 u.2.1 u.2.2) 0 0 := by
  refine kI.of (cc := cX12_law) (maxL := 1) (ret := (some .int)) (by decide) rfl (Nat.le_of_ble_eq_true rfl) ?_
  intro p e s m below meth c A hx hb hr hml hown hts hlocks hnm hK hP hD hS hA ls hl
  have hE : mF (XR [(105, 106), (107, 6000)]) f a f a := mF_rf
  have hZ : mZ [0, 8, 9, 10, 13, 14, 18, 19, 20, 21] [1, 2, 15, 16, 17] f a f a := mZ_rf
  have hg : ∀ w ∈ kG, w.before _ s = true := fun w h => hts w (List.mem_cons_of_mem _ h)
  have hown : s.vm.findClass RX12 = some m.cls := hown
  have hl : lv_has ls 1 [(0, .ref o)] := hl
  have hk0 : f 6 = f 6 := rfl
  have hk1 : a 11 = a 11 := rfl
  obtain ⟨c2_105, ec2_105⟩ : ∃ z : Int32, z = a 2 105 := ⟨_, rfl⟩
  have b1 : kb 0 c2_105 6 := kb_eq ec2_105 (aI_at hI.2.1 2 105 (by decide) (by decide))
  obtain ⟨c14_f, ec14_f⟩ : ∃ z : Int32, z = f 14 := ⟨_, rfl⟩
  refine lv_aload_n hx hb dX12_law_0 rfl (lv_at hl 0 rfl) ?_
  refine va_get (D := D) (ci := 12) (v := .ref (r 2)) (C := RX12) (T := TX12) (N := 48) hx hb hg inC12 hown hK hP 0 rfl rfl 2 (by decide) (hg _ wt5_162) (fun _ h9 => h9) rfl dX12_law_1 ?_
  refine lv_bipush (v := 105) hx hb dX12_law_4 (by decide) ?_
  refine va_iald hx hb hK hP 2 0 rfl rfl (kb_in kc_105 (by decide) (by decide)) dX12_law_6 ?_
  refine k_top (z := c2_105) (by rw [cl_105]; exact ec2_105.symm) ?_
  refine lv_bipush (v := 6) hx hb dX12_law_7 (by decide) ?_
  refine lv_icmp_ne (tgt := 24) hx hb dX12_law_9 (by decide) (fun c2 => ?_) (fun c2 => ?_)
  · have b3 : kb 0 c2_105 5 := kr_neh c2 b1 kc_6 (by decide)
    refine lv_aload_n hx hb dX12_law_24 rfl (lv_at hl 0 rfl) ?_
    refine lv_iconst (v := 0) hx hb dX12_law_25 (by decide) ?_
    refine kI.callV (As := [.int 0]) (rest := []) ⟨hx, hb, hml, hown, hg⟩ (q_readsAs l o r f a g hI 0 (kb_w kc_0 (by decide) (by decide)) ) (cwV 1 hg (kgV wt6_169 wt6_171 wp4_0 wt1_14 wt6_172) rfl rfl rfl (by decide +kernel) ⟨by decide, by decide⟩) hK hP hD hS hA mIs [] rfl (wr := []) rfl rfl rfl (fun i h => by cases h) 0 12 rfl rfl rfl hl.1 rfl (Nat.le_of_ble_eq_true rfl) dX12_law_26 ⟨Nat.le_refl _, Nat.le_refl _⟩ (fun v5 u6 H locs hw4 hP hD hS => ?_)
    obtain ⟨f7, a8, g9⟩ := u6
    have hP : va_P D vwCl (mW K o r f7 a8 g9) H := hP
    have hD : va_D A (mW K o r f7 a8 g9) := hD
    have hI : mI f7 a8 := hw4.2.1
    have hE : mF (XR [(105, 106), (107, 6000)]) f a f7 a8 := mF_tr hE (mF_w (XR_w (by decide)) hw4.2.2.1)
    have eE10 : mF (XR []) f a f7 a8 := hw4.2.2.1
    have eZ11 : mZ [8, 9, 10, 13, 14, 18, 19, 20, 21] [15, 16, 17] f a f7 a8 := hw4.2.2.2.2.2.2.2.2.2
    have hZ : mZ [0, 8, 9, 10, 13, 14, 18, 19, 20, 21] [1, 2, 15, 16, 17] f a f7 a8 := mZ_tr hZ (mZ_w (by decide) (by decide) eZ11)
    have hk0 : f7 6 = f 6 := (hw4.2.2.2.2.2.2.1 6 (by decide)).trans hk0
    have hk1 : a8 11 = a 11 := hw4.2.2.2.2.2.1.trans hk1
    obtain ⟨N, hN1, hN2, hN3⟩ := hw4.2.2.2.2.1
    obtain ⟨b7, htx7, hv7⟩ := hw4.2.2.2.2.2.2.2.1 false (if_neg (by decide)).symm
    obtain ⟨z14, ez14⟩ : ∃ z : Int32, z = f7 14 := ⟨_, rfl⟩
    have htx7 : txR _ _ _ b7 (f7 14) := htx7
    rw [← ez14] at htx7
    refine lv_if_ne (tgt := 39) hx hb dX12_law_29 (by decide) (fun c12 => ?_) (fun c12 => ?_)
    · have b13 : kb 1 v5 1 := kr_nel c12 hw4.1 kc_0 (by decide)
      refine lv_aload_n hx hb dX12_law_39 rfl (lv_at hl 0 rfl) ?_
      refine lv_aload_n hx hb dX12_law_40 rfl (lv_at hl 0 rfl) ?_
      refine va_get (D := D) (ci := 12) (v := .ref (r 2)) (C := RX12) (T := TX12) (N := 48) hx hb hg inC12 hown hK hP 0 rfl rfl 2 (by decide) (hg _ wt5_162) (fun _ h9 => h9) rfl dX12_law_41 ?_
      refine lv_bipush (v := 105) hx hb dX12_law_44 (by decide) ?_
      refine va_iald hx hb hK hP 2 0 rfl rfl (kb_in kc_105 (by decide) (by decide)) dX12_law_46 ?_
      refine k_top (z := c2_105) (by rw [cl_105]; exact (((mE_F eE10).2.2.1 (105) rfl).trans ec2_105.symm)) ?_
      refine kV.callV (As := [.int c2_105]) (rest := []) ⟨hx, hb, hml, hown, hg⟩ (m_lays l o r f7 a8 g9 hI c2_105 (kb_w b3 (by decide) (by decide)) N trivial hN1 hN2 (fun _ => hN3 false rfl (kb_one b13))) (cwV 1 hg (kgV wt7_15 wt7_17 wp5_3 wt1_14 wt7_18) rfl rfl rfl (by decide +kernel) ⟨by decide, by decide⟩) hK hP hD hS hA mIs [] rfl (wr := []) rfl rfl rfl (fun i h => by cases h) 0 12 rfl rfl rfl hl.1 rfl (Nat.le_of_ble_eq_true rfl) dX12_law_47 ⟨Nat.le_refl _, Nat.le_refl _⟩ (fun u16 H locs hw14 hP hD hS => ?_)
      obtain ⟨f17, a18, g19⟩ := u16
      have hP : va_P D vwCl (mW K o r f17 a18 g19) H := hP
      have hD : va_D A (mW K o r f17 a18 g19) := hD
      have hI : mI f17 a18 := hw14.1
      have hE : mF (XR [(105, 106), (107, 6000)]) f a f17 a18 := mF_tr hE (mF_w (XR_w (by decide)) (mF_of hw14.2.1))
      have eE20 : mE (XR [(107, 6000)]) f7 a8 f17 a18 := hw14.2.1
      have eZ21 : mZ [] [2] f7 a8 f17 a18 := hw14.2.2.2.2
      have hZ : mZ [0, 8, 9, 10, 13, 14, 18, 19, 20, 21] [1, 2, 15, 16, 17] f a f17 a18 := mZ_tr hZ (mZ_w (by decide) (by decide) eZ21)
      have hk0 : f17 6 = f 6 := (congrFun hw14.2.2.2.1 6).trans hk0
      have hk1 : a18 11 = a 11 := eE20.2.1.trans hk1
      refine lv_aload_n hx hb dX12_law_50 rfl (lv_at hl 0 rfl) ?_
      refine va_get (D := D) (ci := 12) (v := .ref (r 2)) (C := RX12) (T := TX12) (N := 48) hx hb hg inC12 hown hK hP 0 rfl rfl 2 (by decide) (hg _ wt5_162) (fun _ h9 => h9) rfl dX12_law_51 ?_
      refine lv_bipush (v := 105) hx hb dX12_law_54 (by decide) ?_
      refine lv_dup2_11 hx hb dX12_law_56 rfl rfl ?_
      refine va_iald hx hb hK hP 2 0 rfl rfl (kb_in kc_105 (by decide) (by decide)) dX12_law_57 ?_
      refine k_top (z := c2_105) (by rw [cl_105]; exact ((eE20.2.2.1 105 (by decide)).trans (((mE_F eE10).2.2.1 (105) rfl).trans ec2_105.symm))) ?_
      refine lv_iconst (v := 1) hx hb dX12_law_58 (by decide) ?_
      refine lv_iadd hx hb dX12_law_59 ?_
      refine lv_topi (fun t22 et22 => ?_)
      have b23 : kb 1 t22 6 := kb_eq et22 (kb_add b3 kc_1 (by decide) (by decide))
      have qt22 : t22.toInt = c2_105.toInt + 1 := by rw [et22]; exact kt_addc b3 kc_1 (by decide) (by decide)
      refine va_iast hx hb hK hP hD hS 2 0 rfl rfl (kb_in kc_105 (by decide) (by decide)) dX12_law_60 (fun H locs hP hD hS => ?_)
      rw [cl_105] at hP hD
      have hP : va_P D vwCl (mW K o r f17 (va_up a18 2 (upd (a18 2) 105 t22)) g19) H := hP
      have hD : va_D A (mW K o r f17 (va_up a18 2 (upd (a18 2) 105 t22)) g19) := hD
      refine k_gen (P := fun z => va_P D vwCl (mW K o r f17 z g19) H ∧ va_D A (mW K o r f17 z g19) ∧ (mI f17 z) ∧ (mF (XR [(105, 106), (107, 6000)]) f a f17 z) ∧ (mZ [0, 8, 9, 10, 13, 14, 18, 19, 20, 21] [1, 2, 15, 16, 17] f a f17 z) ∧ (f17 6 = f 6) ∧ (z 11 = a 11)) (va_up a18 2 (upd (a18 2) 105 t22)) ⟨hP, hD, (mI_2 hI (aI_st hI.2.1 2 105 b23 (by decide) (by decide)) (by decide)), (mF_2 hE (by decide)), (mZ_a hZ rfl), hk0, hk1⟩ (fun a_24 ea_24 hq => ?_)
      obtain ⟨hP, hD, hI, hE, hZ, hk0, hk1⟩ := hq
      refine lv_aload_n hx hb dX12_law_61 rfl (lv_at hl 0 rfl) ?_
      refine lv_aload_n hx hb dX12_law_62 rfl (lv_at hl 0 rfl) ?_
      refine va_get (D := D) (ci := 12) (v := .ref (r 2)) (C := RX12) (T := TX12) (N := 48) hx hb hg inC12 hown hK hP 0 rfl rfl 2 (by decide) (hg _ wt5_162) (fun _ h9 => h9) rfl dX12_law_63 ?_
      refine lv_bipush (v := 105) hx hb dX12_law_66 (by decide) ?_
      refine va_iald hx hb hK hP 2 0 rfl rfl (kb_in kc_105 (by decide) (by decide)) dX12_law_68 ?_
      refine k_top (z := t22) (by rw [cl_105]; exact (show a_24 2 105 = t22 from by rw [← ea_24]; exact (pk_us (f := a18 2) (k := 105) (x := t22)))) ?_
      refine lv_iconst (v := 1) hx hb dX12_law_69 (by decide) ?_
      refine lv_isub hx hb dX12_law_70 ?_
      refine lv_topi (fun t25 et25 => ?_)
      have b26 : kb 0 t25 5 := kb_eq et25 (kb_sub b23 kc_1 (by decide) (by decide))
      have qt25 : t25.toInt = t22.toInt - 1 := by rw [et25]; exact kt_subc b23 kc_1 (by decide) (by decide)
      refine kI.callV (As := [.int t25]) (rest := []) ⟨hx, hb, hml, hown, hg⟩ (m_good l o r f17 a_24 g19 hI t25  ) (cwV 1 hg (kgV wt6_76 wt6_78 wp3_6 wt1_14 wt6_79) rfl rfl rfl (by decide +kernel) ⟨by decide, by decide⟩) hK hP hD hS hA mIs [] rfl (wr := []) rfl rfl rfl (fun i h => by cases h) 0 12 rfl rfl rfl hl.1 rfl (Nat.le_of_ble_eq_true rfl) dX12_law_71 ⟨Nat.le_refl _, Nat.le_refl _⟩ (fun v28 u29 H locs hw27 hP hD hS => ?_)
      obtain ⟨f30, a31, g32⟩ := u29
      have hP : va_P D vwCl (mW K o r f30 a31 g32) H := hP
      have hD : va_D A (mW K o r f30 a31 g32) := hD
      have hI : mI f30 a31 := hw27.2.1
      have hE : mF (XR [(105, 106), (107, 6000)]) f a f30 a31 := mF_tr hE (mF_w (XR_w (by decide)) (mF_of hw27.2.2.1))
      have eE33 : mE (XR []) f17 a_24 f30 a31 := hw27.2.2.1
      have eZ34 : mZ [0] [] f17 a_24 f30 a31 := hw27.2.2.2.2
      have hZ : mZ [0, 8, 9, 10, 13, 14, 18, 19, 20, 21] [1, 2, 15, 16, 17] f a f30 a31 := mZ_tr hZ (mZ_w (by decide) (by decide) eZ34)
      have hk0 : f30 6 = f 6 := (eE33.1 6 rfl).trans hk0
      have hk1 : a31 11 = a 11 := eE33.2.1.trans hk1
      refine k_top (z := t25) hw27.2.2.2.1 ?_
      exact kI_ret (v := t25) hx hb hr hlocks rfl hK hS dX12_law_74 (f30, a31, g32) hP hD ⟨(kb_w b26 (by decide) (by decide)), hI, hE, ((eE33.1 13 rfl).trans ((congrFun hw14.2.2.2.1 13).trans hw4.2.2.2.1)), hk0, hk1, (show lawP (a 11) (f 13) t25 (a 2 105) (a31 2 105) (f 14) (f30 14) from Or.inr ⟨(fun q => c2 (ec2_105.trans q)), b7, (by rw [((eE33.1 14 rfl).trans ((congrFun hw14.2.2.2.1 14).trans ez14.symm))]; exact htx7), Or.inr ⟨bv_1 hv7 (kb_one b13), (by rw [← ec2_105]; exact Int32.toInt_inj.mp (by have w1 := qt25; have w2 := qt22; omega)), (by rw [((eE33.2.2.1 (105) rfl).trans (show a_24 2 105 = t22 from by rw [← ea_24]; exact (pk_us (f := a18 2) (k := 105) (x := t22)))), ← ec2_105]; have w1 := qt22; omega)⟩⟩), hZ⟩
    · have b35 : kb 0 v5 0 := kb_eq c12 kc_0
      refine lv_aload_n hx hb dX12_law_32 rfl (lv_at hl 0 rfl) ?_
      refine lv_bipush (v := (-6)) hx hb dX12_law_33 (by decide) ?_
      refine kI.callV (As := [.int (-6)]) (rest := []) ⟨hx, hb, hml, hown, hg⟩ (m_refuses l o r f7 a8 g9 hI (-6) (kb_w kc_m6 (by decide) (by decide)) ) (cwV 1 hg (kgV wt6_72 wt6_74 wp3_5 wt1_14 wt6_75) rfl rfl rfl (by decide +kernel) ⟨by decide, by decide⟩) hK hP hD hS hA mIs [] rfl (wr := []) rfl rfl rfl (fun i h => by cases h) 0 12 rfl rfl rfl hl.1 rfl (Nat.le_of_ble_eq_true rfl) dX12_law_35 ⟨Nat.le_refl _, Nat.le_refl _⟩ (fun v37 u38 H locs hw36 hP hD hS => ?_)
      obtain ⟨f39, a40, g41⟩ := u38
      have hP : va_P D vwCl (mW K o r f39 a40 g41) H := hP
      have hD : va_D A (mW K o r f39 a40 g41) := hD
      have hI : mI f39 a40 := hw36.2.1
      have hE : mF (XR [(105, 106), (107, 6000)]) f a f39 a40 := mF_tr hE (mF_w (XR_w (by decide)) (mF_of hw36.2.2.1))
      have eE42 : mE (XR []) f7 a8 f39 a40 := hw36.2.2.1
      have eZ43 : mZ [0] [1] f7 a8 f39 a40 := hw36.2.2.2.2
      have hZ : mZ [0, 8, 9, 10, 13, 14, 18, 19, 20, 21] [1, 2, 15, 16, 17] f a f39 a40 := mZ_tr hZ (mZ_w (by decide) (by decide) eZ43)
      have hk0 : f39 6 = f 6 := (eE42.1 6 rfl).trans hk0
      have hk1 : a40 11 = a 11 := eE42.2.1.trans hk1
      refine k_top (z := (-6)) hw36.2.2.2.1 ?_
      exact kI_ret (v := (-6)) hx hb hr hlocks rfl hK hS dX12_law_38 (f39, a40, g41) hP hD ⟨(kb_w kc_m6 (by decide) (by decide)), hI, hE, ((eE42.1 13 rfl).trans hw4.2.2.2.1), hk0, hk1, (show lawP (a 11) (f 13) (-6) (a 2 105) (a40 2 105) (f 14) (f39 14) from Or.inr ⟨(fun q => c2 (ec2_105.trans q)), b7, (by rw [((eE42.1 14 rfl).trans ez14.symm)]; exact htx7), Or.inl ⟨bv_0 hv7 (fun z => absurd (c12.symm.trans z) (by decide +kernel)), rfl, ((((eE42.2.2.1 (105) rfl).trans (((mE_F eE10).2.2.1 (105) rfl).trans ec2_105.symm))).trans ec2_105)⟩⟩), hZ⟩
  · have b44 : kb 6 c2_105 6 := kb_eq c2 kc_6
    refine lv_aload_n hx hb dX12_law_12 rfl (lv_at hl 0 rfl) ?_
    refine lv_iconst (v := 0) hx hb dX12_law_13 (by decide) ?_
    refine va_put (D := D) (ci := 12) (v := .int 0) (ty := .int) (C := RX12) (T := TX12) (N := 48) hx hb hg inC12 tyX12 tyX12_ok nmX12 hown hK hP hD hS 0 rfl rfl 13 (by decide) (hg _ wt5_173) (fun _ h9 => h9) rfl (by decide +kernel) rfl rfl (Nat.le_of_ble_eq_true rfl) dX12_law_14 (fun H locs hP hD hS => ?_)
    have hP : va_P D vwCl (mW K o r (upd f 13 0) a g) H := hP
    have hD : va_D A (mW K o r (upd f 13 0) a g) := hD
    refine k_gen (P := fun z => va_P D vwCl (mW K o r z a g) H ∧ va_D A (mW K o r z a g) ∧ (mI z a) ∧ (mF (XR [(105, 106), (107, 6000)]) f a z a) ∧ (mZ [0, 8, 9, 10, 13, 14, 18, 19, 20, 21] [1, 2, 15, 16, 17] f a z a) ∧ (z 6 = f 6) ∧ (a 11 = a 11)) (upd f 13 0) ⟨hP, hD, (mI_f hI (fI_st hI.1 13 kc_0 (by decide) (by decide))), (mF_f hE), (mZ_f hZ rfl), ((pk_un (by decide)).trans hk0), hk1⟩ (fun f_45 ef_45 hq => ?_)
    obtain ⟨hP, hD, hI, hE, hZ, hk0, hk1⟩ := hq
    refine lv_aload_n hx hb dX12_law_17 rfl (lv_at hl 0 rfl) ?_
    refine lv_bipush (v := (-5)) hx hb dX12_law_18 (by decide) ?_
    refine kI.callV (As := [.int (-5)]) (rest := []) ⟨hx, hb, hml, hown, hg⟩ (m_refuses l o r f_45 a g hI (-5) (kb_w kc_m5 (by decide) (by decide)) ) (cwV 1 hg (kgV wt6_72 wt6_74 wp3_5 wt1_14 wt6_75) rfl rfl rfl (by decide +kernel) ⟨by decide, by decide⟩) hK hP hD hS hA mIs [] rfl (wr := []) rfl rfl rfl (fun i h => by cases h) 0 12 rfl rfl rfl hl.1 rfl (Nat.le_of_ble_eq_true rfl) dX12_law_20 ⟨Nat.le_refl _, Nat.le_refl _⟩ (fun v47 u48 H locs hw46 hP hD hS => ?_)
    obtain ⟨f49, a50, g51⟩ := u48
    have hP : va_P D vwCl (mW K o r f49 a50 g51) H := hP
    have hD : va_D A (mW K o r f49 a50 g51) := hD
    have hI : mI f49 a50 := hw46.2.1
    have hE : mF (XR [(105, 106), (107, 6000)]) f a f49 a50 := mF_tr hE (mF_w (XR_w (by decide)) (mF_of hw46.2.2.1))
    have eE52 : mE (XR []) f_45 a f49 a50 := hw46.2.2.1
    have eZ53 : mZ [0] [1] f_45 a f49 a50 := hw46.2.2.2.2
    have hZ : mZ [0, 8, 9, 10, 13, 14, 18, 19, 20, 21] [1, 2, 15, 16, 17] f a f49 a50 := mZ_tr hZ (mZ_w (by decide) (by decide) eZ53)
    have hk0 : f49 6 = f 6 := (eE52.1 6 rfl).trans hk0
    have hk1 : a50 11 = a 11 := eE52.2.1.trans hk1
    refine k_top (z := (-5)) hw46.2.2.2.1 ?_
    exact kI_ret (v := (-5)) hx hb hr hlocks rfl hK hS dX12_law_23 (f49, a50, g51) hP hD ⟨(kb_w kc_m5 (by decide) (by decide)), hI, hE, ((eE52.1 13 rfl).trans (show f_45 13 = 0 from by rw [← ef_45]; rfl)), hk0, hk1, (show lawP (a 11) (f 13) (-5) (a 2 105) (a50 2 105) (f 14) (f49 14) from Or.inl ⟨(ec2_105.symm.trans c2), rfl, ((((eE52.2.2.1 (105) rfl).trans ec2_105.symm)).trans ec2_105), ((((eE52.1 14 rfl).trans ((show f_45 14 = f 14 from by rw [← ef_45]; rfl).trans ec14_f.symm))).trans ec14_f)⟩), hZ⟩
