/-! images, with their numbers -/
/-- nothing but these moved: fields, rows, rows of references of the class ahead of its images -/
def nF (Lf La Lg : List Nat) (f0 : Nat → Int32) (a0 : Nat → Nat → Int32) (g0 : Nat → Nat → Option Nat) (f : Nat → Int32) (a : Nat → Nat → Int32) (g : Nat → Nat → Option Nat) : Prop := (∀ j, j < 3040 → Lf.contains j = false → f j = f0 j) ∧ (∀ s, s < 95 → La.contains s = false → a s = a0 s) ∧ (∀ s, s < 95 → Lg.contains s = false → g s = g0 s)
/-- an image's numbers and laws -/
def iN (i : Option sX) (k : Nat → Int32) (G : Nat → Option Nat) : Prop := ∃ s, i = some s ∧ sV 3040 96 s.2.1 s.2.2.1 k ∧ ∀ q, q < 6 → s.2.2.2.2 109 q = G q
/-- the same image -/
def iQ : Option sX → Option sX → Prop
  | none, none => True
  | some s, some t => (∀ j, 3040 ≤ j → t.2.1 j = s.2.1 j) ∧ (∀ p, 95 ≤ p → t.2.2.1 p = s.2.2.1 p) ∧ (∀ p, 95 ≤ p → t.2.2.2.2 p = s.2.2.2.2 p)
  | _, _ => False
theorem iQ_rf (i : Option sX) : iQ i i := by
  cases i with
  | none => exact trivial
  | some s => exact ⟨fun _ _ => rfl, fun _ _ => rfl, fun _ _ => rfl⟩
theorem iQ_none {i j : Option sX} (h : iQ i j) : j = none ↔ i = none := by
  cases i with
  | none => cases j with
    | none => exact Iff.rfl
    | some t => exact absurd h id
  | some s => cases j with
    | none => exact absurd h id
    | some t => exact ⟨fun e => (by cases e), fun e => (by cases e)⟩
/-- image's answers, class -/
def imZ (x v : Int32) (i0 i1 j0 j1 : Option sX) (k : Nat → Int32) (G : Nat → Option Nat) (C0 C1 : Nat → Int32) : Prop := (v = -1 ∧ ¬ (0 ≤ x.toInt ∧ x.toInt ≤ 1) ∧ j0 = i0 ∧ j1 = i1 ∧ ∀ R1, rfE C0 R1 → rfE C1 (rfS (-1 : Int32).toInt R1)) ∨ (v = 0 ∧ x = 0 ∧ iN j0 k G ∧ j1 = i1 ∧ ∀ R1, rfE C0 R1 → rfE C1 R1) ∨ (v = 0 ∧ x = 1 ∧ j0 = i0 ∧ iN j1 k G ∧ ∀ R1, rfE C0 R1 → rfE C1 R1)
def bkL : List Nat := [16, 32, 38, 44, 49, 50, 704, 705, 2565, 2566, 2786]
def bkR : List Nat := [2, 3, 4, 5, 6, 7, 8, 9, 10, 11, 12, 13, 14, 81]
/-- back's answers, class -/
def bkZ (x v : Int32) (i0 i1 : Option sX) (k0 k1 : Nat → Int32) (f0 : Nat → Int32) (a0 : Nat → Nat → Int32) (g0 : Nat → Nat → Option Nat) (f : Nat → Int32) (a : Nat → Nat → Int32) (g : Nat → Nat → Option Nat) : Prop :=
  (v = -1 ∧ ¬ (0 ≤ x.toInt ∧ x.toInt ≤ 1) ∧ nF [16] [94] [] f0 a0 g0 f a g ∧ ∀ R1, rfE (a0 94) R1 → rfE (a 94) (rfS (-1 : Int32).toInt R1))
  ∨ (v = -2 ∧ ((x = 0 ∧ i0 = none) ∨ (x = 1 ∧ i1 = none)) ∧ nF [16] [94] [] f0 a0 g0 f a g ∧ ∀ R1, rfE (a0 94) R1 → rfE (a 94) (rfS (-2 : Int32).toInt R1))
  ∨ (v = 0 ∧ nF bkL bkR [15] f0 a0 g0 f a g ∧ f 704 = 0 ∧ f 705 = 0 ∧ ((x = 0 ∧ sV 32 2 f a k0 ∧ ∃ s, i0 = some s ∧ ∀ q, q < 6 → g 15 q = s.2.2.2.2 109 q) ∨ (x = 1 ∧ sV 32 2 f a k1 ∧ ∃ s, i1 = some s ∧ ∀ q, q < 6 → g 15 q = s.2.2.2.2 109 q)))
theorem nc_lt {L : List Nat} {B j : Nat} (h : (L.all (fun x => decide (B ≤ x))) = true) (hj : j < B) : L.contains j = false := by
  cases e : L.contains j with
  | false => rfl
  | true =>
    have w := of_decide_eq_true (List.all_eq_true.mp h j (List.contains_iff_mem.mp e))
    omega
theorem nc_ge {L : List Nat} {B j : Nat} (h : (L.all (fun x => decide (x < B))) = true) (hj : B ≤ j) : L.contains j = false := by
  cases e : L.contains j with
  | false => rfl
  | true =>
    have w := of_decide_eq_true (List.all_eq_true.mp h j (List.contains_iff_mem.mp e))
    omega
theorem nc_sub {L M : List Nat} {j : Nat} (h : (L.all (fun x => M.contains x)) = true) (hc : M.contains j = false) : L.contains j = false := by
  cases e : L.contains j with
  | false => rfl
  | true =>
    have w := List.all_eq_true.mp h j (List.contains_iff_mem.mp e)
    rw [hc] at w
    cases w
theorem nF_w {f0 f : Nat → Int32} {a0 a : Nat → Nat → Int32} {g0 g : Nat → Nat → Option Nat} (h : nF [16] [94] [] f0 a0 g0 f a g) : nF [16] [94] [92] f0 a0 g0 f a g := ⟨h.1, h.2.1, fun s hs _ => h.2.2 s hs rfl⟩
theorem up_n9 {α : Type} {g : Nat → α} {i s : Nat} {v : α} (h : ¬ s = i) : va_up g i v s = g s := by
  unfold va_up
  rw [if_neg h]
theorem dX11_image_0 : decode cX11_image 0 = .ok (.iload_n 1, 1) := by decide +kernel
theorem dX11_image_1 : decode cX11_image 1 = .ok (.ifCond .lt 8, 3) := by decide +kernel
theorem dX11_image_4 : decode cX11_image 4 = .ok (.iload_n 1, 1) := by decide +kernel
theorem dX11_image_5 : decode cX11_image 5 = .ok (.iconst 2, 1) := by decide +kernel
theorem dX11_image_6 : decode cX11_image 6 = .ok (.if_icmp .lt 9, 3) := by decide +kernel
theorem dX11_image_9 : decode cX11_image 9 = .ok (.aload_n 0, 1) := by decide +kernel
theorem dX11_image_10 : decode cX11_image 10 = .ok (.iconst (-1), 1) := by decide +kernel
theorem dX11_image_11 : decode cX11_image 11 = .ok (.invokevirtual 114, 3) := by decide +kernel
theorem dX11_image_14 : decode cX11_image 14 = .ok (.ireturn, 1) := by decide +kernel
theorem dX11_image_15 : decode cX11_image 15 = .ok (.aload_n 0, 1) := by decide +kernel
theorem dX11_image_16 : decode cX11_image 16 = .ok (.getfield 82, 3) := by decide +kernel
theorem dX11_image_19 : decode cX11_image 19 = .ok (.iload_n 1, 1) := by decide +kernel
theorem dX11_image_20 : decode cX11_image 20 = .ok (.aaload, 1) := by decide +kernel
theorem dX11_image_21 : decode cX11_image 21 = .ok (.ifnonnull 16, 3) := by decide +kernel
theorem dX11_image_24 : decode cX11_image 24 = .ok (.aload_n 0, 1) := by decide +kernel
theorem dX11_image_25 : decode cX11_image 25 = .ok (.getfield 82, 3) := by decide +kernel
theorem dX11_image_28 : decode cX11_image 28 = .ok (.iload_n 1, 1) := by decide +kernel
theorem dX11_image_29 : decode cX11_image 29 = .ok (.new 7, 3) := by decide +kernel
theorem dX11_image_32 : decode cX11_image 32 = .ok (.dup, 1) := by decide +kernel
theorem dX11_image_33 : decode cX11_image 33 = .ok (.invokespecial 9, 3) := by decide +kernel
theorem dX11_image_36 : decode cX11_image 36 = .ok (.aastore, 1) := by decide +kernel
theorem dX11_image_37 : decode cX11_image 37 = .ok (.aload_n 0, 1) := by decide +kernel
theorem dX11_image_38 : decode cX11_image 38 = .ok (.getfield 82, 3) := by decide +kernel
theorem dX11_image_41 : decode cX11_image 41 = .ok (.iload_n 1, 1) := by decide +kernel
theorem dX11_image_42 : decode cX11_image 42 = .ok (.aaload, 1) := by decide +kernel
theorem dX11_image_43 : decode cX11_image 43 = .ok (.aload_n 0, 1) := by decide +kernel
theorem dX11_image_44 : decode cX11_image 44 = .ok (.getfield 10, 3) := by decide +kernel
theorem dX11_image_47 : decode cX11_image 47 = .ok (.invokevirtual 314, 3) := by decide +kernel
theorem dX11_image_50 : decode cX11_image 50 = .ok (.aload_n 0, 1) := by decide +kernel
theorem dX11_image_51 : decode cX11_image 51 = .ok (.iconst 0, 1) := by decide +kernel
theorem dX11_image_52 : decode cX11_image 52 = .ok (.invokevirtual 225, 3) := by decide +kernel
theorem dX11_image_55 : decode cX11_image 55 = .ok (.ireturn, 1) := by decide +kernel
theorem dX11_back_0 : decode cX11_back 0 = .ok (.iload_n 1, 1) := by decide +kernel
theorem dX11_back_1 : decode cX11_back 1 = .ok (.ifCond .lt 8, 3) := by decide +kernel
theorem dX11_back_4 : decode cX11_back 4 = .ok (.iload_n 1, 1) := by decide +kernel
theorem dX11_back_5 : decode cX11_back 5 = .ok (.iconst 2, 1) := by decide +kernel
theorem dX11_back_6 : decode cX11_back 6 = .ok (.if_icmp .lt 9, 3) := by decide +kernel
theorem dX11_back_9 : decode cX11_back 9 = .ok (.aload_n 0, 1) := by decide +kernel
theorem dX11_back_10 : decode cX11_back 10 = .ok (.iconst (-1), 1) := by decide +kernel
theorem dX11_back_11 : decode cX11_back 11 = .ok (.invokevirtual 114, 3) := by decide +kernel
theorem dX11_back_14 : decode cX11_back 14 = .ok (.ireturn, 1) := by decide +kernel
theorem dX11_back_15 : decode cX11_back 15 = .ok (.aload_n 0, 1) := by decide +kernel
theorem dX11_back_16 : decode cX11_back 16 = .ok (.getfield 82, 3) := by decide +kernel
theorem dX11_back_19 : decode cX11_back 19 = .ok (.iload_n 1, 1) := by decide +kernel
theorem dX11_back_20 : decode cX11_back 20 = .ok (.aaload, 1) := by decide +kernel
theorem dX11_back_21 : decode cX11_back 21 = .ok (.ifnonnull 10, 3) := by decide +kernel
theorem dX11_back_24 : decode cX11_back 24 = .ok (.aload_n 0, 1) := by decide +kernel
theorem dX11_back_25 : decode cX11_back 25 = .ok (.bipush (-2), 2) := by decide +kernel
theorem dX11_back_27 : decode cX11_back 27 = .ok (.invokevirtual 114, 3) := by decide +kernel
theorem dX11_back_30 : decode cX11_back 30 = .ok (.ireturn, 1) := by decide +kernel
theorem dX11_back_31 : decode cX11_back 31 = .ok (.aload_n 0, 1) := by decide +kernel
theorem dX11_back_32 : decode cX11_back 32 = .ok (.getfield 10, 3) := by decide +kernel
theorem dX11_back_35 : decode cX11_back 35 = .ok (.aload_n 0, 1) := by decide +kernel
theorem dX11_back_36 : decode cX11_back 36 = .ok (.getfield 82, 3) := by decide +kernel
theorem dX11_back_39 : decode cX11_back 39 = .ok (.iload_n 1, 1) := by decide +kernel
theorem dX11_back_40 : decode cX11_back 40 = .ok (.aaload, 1) := by decide +kernel
theorem dX11_back_41 : decode cX11_back 41 = .ok (.invokevirtual 314, 3) := by decide +kernel
theorem dX11_back_44 : decode cX11_back 44 = .ok (.aload_n 0, 1) := by decide +kernel
theorem dX11_back_45 : decode cX11_back 45 = .ok (.getfield 19, 3) := by decide +kernel
theorem dX11_back_48 : decode cX11_back 48 = .ok (.invokevirtual 118, 3) := by decide +kernel
theorem dX11_back_51 : decode cX11_back 51 = .ok (.aload_n 0, 1) := by decide +kernel
theorem dX11_back_52 : decode cX11_back 52 = .ok (.iconst 0, 1) := by decide +kernel
theorem dX11_back_53 : decode cX11_back 53 = .ok (.invokevirtual 121, 3) := by decide +kernel
theorem dX11_back_56 : decode cX11_back 56 = .ok (.ireturn, 1) := by decide +kernel
theorem wt5_141 : Cond.methodLink RX11 314 yX7_copyFrom ∈ kG := kt5 141 rfl rfl
set_option maxHeartbeats 4000000 in
set_option maxRecDepth 100000 in
theorem z_copyFromI  (l : Launch) {D : va_G} {K : Nat → ClassId} (r : Nat → Nat) (f : Nat → Int32) (a : Nat → Nat → Int32) (g : xG) (tx tt : va_W) (hT : ∀ c ∈ tt, c ∈ tx) (hI : xI f a) (hG : gOK K g.2 tt)   (k : Nat → Int32) (hVw : sV 32 2 f a k) (hkk : kK k)   : kVG l yX7_copyFrom (Cond.code yX7_copyFrom cX7_copyFrom 3 none :: kG) (rmD 2 0 0) D K [.ref (r 95), .ref (r 1)] (xX K r f a g (sI K r f a g ++ tx)) (fun (u : xS) => xI u.1 u.2.1 ∧ gOK K u.2.2.2 tt ∧ xEk ([3040, 3046, 3052, 3057, 3058], [96, 97, 98, 99, 100, 101, 102, 103, 104, 105, 106, 107, 108], [109]) f a g u.1 u.2.1 u.2.2 ∧ sV 3040 96 u.1 u.2.1 k ∧ (∀ i, i < 6 → u.2.2.2 109 i = g.2 15 i)) (fun u => xX K r u.1 u.2.1 u.2.2 (sI K r u.1 u.2.1 u.2.2 ++ tx)) 0 0 := by
  refine kVG.of (cc := cX7_copyFrom) (maxL := 3) (ret := none) (by decide) rfl (Nat.le_of_ble_eq_true rfl) ?_
  intro p e s m below meth c A hx hb hr hml hown hts hlocks hnm hK hP hD hS hA hV ls hl
  have hE : xEk ([3040, 3046, 3052, 3057, 3058], [96, 97, 98, 99, 100, 101, 102, 103, 104, 105, 106, 107, 108], [109]) f a g f a g := xEk_rf
  have hg : ∀ w ∈ kG, w.before _ s = true := fun w h => hts w (List.mem_cons_of_mem _ h)
  have hown : s.vm.findClass RX7 = some m.cls := hown
  have hl : lv_has ls 3 [(0, .ref (r 95)), (1, .ref (r 1))] := hl
  obtain ⟨s32, es32⟩ : ∃ z : Int32, z = f 32 := ⟨_, rfl⟩
  have b1 : kb 0 s32 10 := kb_eq es32 (fI_at hI.1 32 (by decide) (by decide))
  obtain ⟨s38, es38⟩ : ∃ z : Int32, z = f 38 := ⟨_, rfl⟩
  obtain ⟨s44, es44⟩ : ∃ z : Int32, z = f 44 := ⟨_, rfl⟩
  obtain ⟨s49, es49⟩ : ∃ z : Int32, z = f 49 := ⟨_, rfl⟩
  obtain ⟨s50, es50⟩ : ∃ z : Int32, z = f 50 := ⟨_, rfl⟩
  refine lv_aload_n hx hb dX7_copyFrom_0 rfl (lv_at hl 0 rfl) ?_
  refine lv_aload_n hx hb dX7_copyFrom_1 rfl (lv_at hl 1 rfl) ?_
  refine va_get (D := D) (ci := 7) (v := .int (f 32)) (C := RX7) (T := TX7) (N := 20) hx hb hg inC7 hown hK hP 1 rfl rfl 0 (by decide) (hg _ wt1_79) (fun _ h9 => h9) rfl dX7_copyFrom_2 ?_
  refine k_top (z := s32) es32.symm ?_
  refine va_put (D := D) (ci := 7) (v := .int s32) (ty := .int) (C := RX7) (T := TX7) (N := 20) hx hb hg inC7 tyX7 tyX7_ok nmX7 hown hK hP hD hS 95 rfl rfl 0 (by decide) (hg _ wt1_79) (fun _ h9 => h9) rfl (by decide +kernel) rfl rfl (Nat.le_of_ble_eq_true rfl) dX7_copyFrom_5 (fun H locs hP hD hS => ?_)
  have hP : va_P D vwCl (xX K r (upd f 3040 s32) a g (sI K r (upd f 3040 s32) a g ++ tx)) H := hP
  have hD : va_D A (xX K r (upd f 3040 s32) a g (sI K r (upd f 3040 s32) a g ++ tx)) := hD
  refine k_gen (P := fun z => va_P D vwCl (xX K r z a g (sI K r z a g ++ tx)) H ∧ va_D A (xX K r z a g (sI K r z a g ++ tx)) ∧ (xI z a) ∧ (gOK K g.2 tt) ∧ (xEk ([3040, 3046, 3052, 3057, 3058], [96, 97, 98, 99, 100, 101, 102, 103, 104, 105, 106, 107, 108], [109]) f a g z a g)) (upd f 3040 s32) ⟨hP, hD, (xI_f hI (fI_st hI.1 3040 b1 (by decide) (by decide))), hG, (xEk_f hE rfl)⟩ (fun f_2 ef_2 hq => ?_)
  obtain ⟨hP, hD, hI, hG, hE⟩ := hq
  refine lv_aload_n hx hb dX7_copyFrom_8 rfl (lv_at hl 1 rfl) ?_
  refine va_get (D := D) (ci := 7) (v := .ref (r 2)) (C := RX7) (T := TX7) (N := 20) hx hb hg inC7 hown hK hP 1 rfl rfl 1 (by decide) (hg _ wt1_86) (fun _ h9 => h9) rfl dX7_copyFrom_9 ?_
  refine lv_iconst (v := 0) hx hb dX7_copyFrom_12 (by decide) ?_
  refine lv_aload_n hx hb dX7_copyFrom_13 rfl (lv_at hl 0 rfl) ?_
  refine va_get (D := D) (ci := 7) (v := .ref (r 96)) (C := RX7) (T := TX7) (N := 20) hx hb hg inC7 hown hK hP 95 rfl rfl 1 (by decide) (hg _ wt1_86) (fun _ h9 => h9) rfl dX7_copyFrom_14 ?_
  refine lv_iconst (v := 0) hx hb dX7_copyFrom_17 (by decide) ?_
  refine lv_bipush (v := 10) hx hb dX7_copyFrom_18 (by decide) ?_
  refine va_copyi (ty := .int) hx hb (hml.trans hl.1.symm) hown (hg _ wt4_83) (hg _ wt4_70) (hg _ wt4_69) (hg _ wt1_20) hK hP hD hS 2 96 0 0 rfl rfl rfl rfl rfl (by decide) (by decide) (by decide) (by decide +kernel) (by decide +kernel) (fun i _ => rfl) (by decide) (Nat.le_of_ble_eq_true rfl) dX7_copyFrom_20 (fun H locs hP hD hS => ?_)
  have hP : va_P D vwCl (xX K r f_2 (va_up a 96 (va_cpy (a 2) (a 96) (0 : Int32).toNatClampNeg (0 : Int32).toNatClampNeg (10 : Int32).toNatClampNeg)) g (sI K r f_2 (va_up a 96 (va_cpy (a 2) (a 96) (0 : Int32).toNatClampNeg (0 : Int32).toNatClampNeg (10 : Int32).toNatClampNeg)) g ++ tx)) H := hP
  have hD : va_D A (xX K r f_2 (va_up a 96 (va_cpy (a 2) (a 96) (0 : Int32).toNatClampNeg (0 : Int32).toNatClampNeg (10 : Int32).toNatClampNeg)) g (sI K r f_2 (va_up a 96 (va_cpy (a 2) (a 96) (0 : Int32).toNatClampNeg (0 : Int32).toNatClampNeg (10 : Int32).toNatClampNeg)) g ++ tx)) := hD
  refine k_gen (P := fun z => va_P D vwCl (xX K r f_2 z g (sI K r f_2 z g ++ tx)) H ∧ va_D A (xX K r f_2 z g (sI K r f_2 z g ++ tx)) ∧ (xI f_2 z) ∧ (gOK K g.2 tt) ∧ (xEk ([3040, 3046, 3052, 3057, 3058], [96, 97, 98, 99, 100, 101, 102, 103, 104, 105, 106, 107, 108], [109]) f a g f_2 z g)) (va_up a 96 (va_cpy (a 2) (a 96) (0 : Int32).toNatClampNeg (0 : Int32).toNatClampNeg (10 : Int32).toNatClampNeg)) ⟨hP, hD, (xI_a hI (by decide)), hG, (xEk_a hE rfl)⟩ (fun a_3 ea_3 hq => ?_)
  obtain ⟨hP, hD, hI, hG, hE⟩ := hq
  refine lv_aload_n hx hb dX7_copyFrom_23 rfl (lv_at hl 1 rfl) ?_
  refine va_get (D := D) (ci := 7) (v := .ref (r 3)) (C := RX7) (T := TX7) (N := 20) hx hb hg inC7 hown hK hP 1 rfl rfl 2 (by decide) (hg _ wt1_89) (fun _ h9 => h9) rfl dX7_copyFrom_24 ?_
  refine lv_iconst (v := 0) hx hb dX7_copyFrom_27 (by decide) ?_
  refine lv_aload_n hx hb dX7_copyFrom_28 rfl (lv_at hl 0 rfl) ?_
  refine va_get (D := D) (ci := 7) (v := .ref (r 97)) (C := RX7) (T := TX7) (N := 20) hx hb hg inC7 hown hK hP 95 rfl rfl 2 (by decide) (hg _ wt1_89) (fun _ h9 => h9) rfl dX7_copyFrom_29 ?_
  refine lv_iconst (v := 0) hx hb dX7_copyFrom_32 (by decide) ?_
  refine lv_bipush (v := 10) hx hb dX7_copyFrom_33 (by decide) ?_
  refine va_copyi (ty := .int) hx hb (hml.trans hl.1.symm) hown (hg _ wt4_83) (hg _ wt4_70) (hg _ wt4_69) (hg _ wt1_20) hK hP hD hS 3 97 0 0 rfl rfl rfl rfl rfl (by decide) (by decide) (by decide) (by decide +kernel) (by decide +kernel) (fun i _ => rfl) (by decide) (Nat.le_of_ble_eq_true rfl) dX7_copyFrom_35 (fun H locs hP hD hS => ?_)
  have hP : va_P D vwCl (xX K r f_2 (va_up a_3 97 (va_cpy (a_3 3) (a_3 97) (0 : Int32).toNatClampNeg (0 : Int32).toNatClampNeg (10 : Int32).toNatClampNeg)) g (sI K r f_2 (va_up a_3 97 (va_cpy (a_3 3) (a_3 97) (0 : Int32).toNatClampNeg (0 : Int32).toNatClampNeg (10 : Int32).toNatClampNeg)) g ++ tx)) H := hP
  have hD : va_D A (xX K r f_2 (va_up a_3 97 (va_cpy (a_3 3) (a_3 97) (0 : Int32).toNatClampNeg (0 : Int32).toNatClampNeg (10 : Int32).toNatClampNeg)) g (sI K r f_2 (va_up a_3 97 (va_cpy (a_3 3) (a_3 97) (0 : Int32).toNatClampNeg (0 : Int32).toNatClampNeg (10 : Int32).toNatClampNeg)) g ++ tx)) := hD
  refine k_gen (P := fun z => va_P D vwCl (xX K r f_2 z g (sI K r f_2 z g ++ tx)) H ∧ va_D A (xX K r f_2 z g (sI K r f_2 z g ++ tx)) ∧ (xI f_2 z) ∧ (gOK K g.2 tt) ∧ (xEk ([3040, 3046, 3052, 3057, 3058], [96, 97, 98, 99, 100, 101, 102, 103, 104, 105, 106, 107, 108], [109]) f a g f_2 z g)) (va_up a_3 97 (va_cpy (a_3 3) (a_3 97) (0 : Int32).toNatClampNeg (0 : Int32).toNatClampNeg (10 : Int32).toNatClampNeg)) ⟨hP, hD, (xI_a hI (by decide)), hG, (xEk_a hE rfl)⟩ (fun a_4 ea_4 hq => ?_)
  obtain ⟨hP, hD, hI, hG, hE⟩ := hq
  refine lv_aload_n hx hb dX7_copyFrom_38 rfl (lv_at hl 1 rfl) ?_
  refine va_get (D := D) (ci := 7) (v := .ref (r 4)) (C := RX7) (T := TX7) (N := 20) hx hb hg inC7 hown hK hP 1 rfl rfl 3 (by decide) (hg _ wt1_93) (fun _ h9 => h9) rfl dX7_copyFrom_39 ?_
  refine lv_iconst (v := 0) hx hb dX7_copyFrom_42 (by decide) ?_
  refine lv_aload_n hx hb dX7_copyFrom_43 rfl (lv_at hl 0 rfl) ?_
  refine va_get (D := D) (ci := 7) (v := .ref (r 98)) (C := RX7) (T := TX7) (N := 20) hx hb hg inC7 hown hK hP 95 rfl rfl 3 (by decide) (hg _ wt1_93) (fun _ h9 => h9) rfl dX7_copyFrom_44 ?_
  refine lv_iconst (v := 0) hx hb dX7_copyFrom_47 (by decide) ?_
  refine lv_bipush (v := 10) hx hb dX7_copyFrom_48 (by decide) ?_
  refine va_copyi (ty := .int) hx hb (hml.trans hl.1.symm) hown (hg _ wt4_83) (hg _ wt4_70) (hg _ wt4_69) (hg _ wt1_20) hK hP hD hS 4 98 0 0 rfl rfl rfl rfl rfl (by decide) (by decide) (by decide) (by decide +kernel) (by decide +kernel) (fun i _ => rfl) (by decide) (Nat.le_of_ble_eq_true rfl) dX7_copyFrom_50 (fun H locs hP hD hS => ?_)
  have hP : va_P D vwCl (xX K r f_2 (va_up a_4 98 (va_cpy (a_4 4) (a_4 98) (0 : Int32).toNatClampNeg (0 : Int32).toNatClampNeg (10 : Int32).toNatClampNeg)) g (sI K r f_2 (va_up a_4 98 (va_cpy (a_4 4) (a_4 98) (0 : Int32).toNatClampNeg (0 : Int32).toNatClampNeg (10 : Int32).toNatClampNeg)) g ++ tx)) H := hP
  have hD : va_D A (xX K r f_2 (va_up a_4 98 (va_cpy (a_4 4) (a_4 98) (0 : Int32).toNatClampNeg (0 : Int32).toNatClampNeg (10 : Int32).toNatClampNeg)) g (sI K r f_2 (va_up a_4 98 (va_cpy (a_4 4) (a_4 98) (0 : Int32).toNatClampNeg (0 : Int32).toNatClampNeg (10 : Int32).toNatClampNeg)) g ++ tx)) := hD
  refine k_gen (P := fun z => va_P D vwCl (xX K r f_2 z g (sI K r f_2 z g ++ tx)) H ∧ va_D A (xX K r f_2 z g (sI K r f_2 z g ++ tx)) ∧ (xI f_2 z) ∧ (gOK K g.2 tt) ∧ (xEk ([3040, 3046, 3052, 3057, 3058], [96, 97, 98, 99, 100, 101, 102, 103, 104, 105, 106, 107, 108], [109]) f a g f_2 z g)) (va_up a_4 98 (va_cpy (a_4 4) (a_4 98) (0 : Int32).toNatClampNeg (0 : Int32).toNatClampNeg (10 : Int32).toNatClampNeg)) ⟨hP, hD, (xI_a hI (by decide)), hG, (xEk_a hE rfl)⟩ (fun a_5 ea_5 hq => ?_)
  obtain ⟨hP, hD, hI, hG, hE⟩ := hq
  refine lv_aload_n hx hb dX7_copyFrom_53 rfl (lv_at hl 1 rfl) ?_
  refine va_get (D := D) (ci := 7) (v := .ref (r 5)) (C := RX7) (T := TX7) (N := 20) hx hb hg inC7 hown hK hP 1 rfl rfl 4 (by decide) (hg _ wt1_95) (fun _ h9 => h9) rfl dX7_copyFrom_54 ?_
  refine lv_iconst (v := 0) hx hb dX7_copyFrom_57 (by decide) ?_
  refine lv_aload_n hx hb dX7_copyFrom_58 rfl (lv_at hl 0 rfl) ?_
  refine va_get (D := D) (ci := 7) (v := .ref (r 99)) (C := RX7) (T := TX7) (N := 20) hx hb hg inC7 hown hK hP 95 rfl rfl 4 (by decide) (hg _ wt1_95) (fun _ h9 => h9) rfl dX7_copyFrom_59 ?_
  refine lv_iconst (v := 0) hx hb dX7_copyFrom_62 (by decide) ?_
  refine lv_bipush (v := 10) hx hb dX7_copyFrom_63 (by decide) ?_
  refine va_copyi (ty := .int) hx hb (hml.trans hl.1.symm) hown (hg _ wt4_83) (hg _ wt4_70) (hg _ wt4_69) (hg _ wt1_20) hK hP hD hS 5 99 0 0 rfl rfl rfl rfl rfl (by decide) (by decide) (by decide) (by decide +kernel) (by decide +kernel) (fun i _ => rfl) (by decide) (Nat.le_of_ble_eq_true rfl) dX7_copyFrom_65 (fun H locs hP hD hS => ?_)
  have hP : va_P D vwCl (xX K r f_2 (va_up a_5 99 (va_cpy (a_5 5) (a_5 99) (0 : Int32).toNatClampNeg (0 : Int32).toNatClampNeg (10 : Int32).toNatClampNeg)) g (sI K r f_2 (va_up a_5 99 (va_cpy (a_5 5) (a_5 99) (0 : Int32).toNatClampNeg (0 : Int32).toNatClampNeg (10 : Int32).toNatClampNeg)) g ++ tx)) H := hP
  have hD : va_D A (xX K r f_2 (va_up a_5 99 (va_cpy (a_5 5) (a_5 99) (0 : Int32).toNatClampNeg (0 : Int32).toNatClampNeg (10 : Int32).toNatClampNeg)) g (sI K r f_2 (va_up a_5 99 (va_cpy (a_5 5) (a_5 99) (0 : Int32).toNatClampNeg (0 : Int32).toNatClampNeg (10 : Int32).toNatClampNeg)) g ++ tx)) := hD
  refine k_gen (P := fun z => va_P D vwCl (xX K r f_2 z g (sI K r f_2 z g ++ tx)) H ∧ va_D A (xX K r f_2 z g (sI K r f_2 z g ++ tx)) ∧ (xI f_2 z) ∧ (gOK K g.2 tt) ∧ (xEk ([3040, 3046, 3052, 3057, 3058], [96, 97, 98, 99, 100, 101, 102, 103, 104, 105, 106, 107, 108], [109]) f a g f_2 z g)) (va_up a_5 99 (va_cpy (a_5 5) (a_5 99) (0 : Int32).toNatClampNeg (0 : Int32).toNatClampNeg (10 : Int32).toNatClampNeg)) ⟨hP, hD, (xI_a hI (by decide)), hG, (xEk_a hE rfl)⟩ (fun a_6 ea_6 hq => ?_)
  obtain ⟨hP, hD, hI, hG, hE⟩ := hq
  refine lv_aload_n hx hb dX7_copyFrom_68 rfl (lv_at hl 1 rfl) ?_
  refine va_get (D := D) (ci := 7) (v := .ref (r 6)) (C := RX7) (T := TX7) (N := 20) hx hb hg inC7 hown hK hP 1 rfl rfl 5 (by decide) (hg _ wt1_97) (fun _ h9 => h9) rfl dX7_copyFrom_69 ?_
  refine lv_iconst (v := 0) hx hb dX7_copyFrom_72 (by decide) ?_
  refine lv_aload_n hx hb dX7_copyFrom_73 rfl (lv_at hl 0 rfl) ?_
  refine va_get (D := D) (ci := 7) (v := .ref (r 100)) (C := RX7) (T := TX7) (N := 20) hx hb hg inC7 hown hK hP 95 rfl rfl 5 (by decide) (hg _ wt1_97) (fun _ h9 => h9) rfl dX7_copyFrom_74 ?_
  refine lv_iconst (v := 0) hx hb dX7_copyFrom_77 (by decide) ?_
  refine lv_bipush (v := 10) hx hb dX7_copyFrom_78 (by decide) ?_
  refine va_copyi (ty := .int) hx hb (hml.trans hl.1.symm) hown (hg _ wt4_83) (hg _ wt4_70) (hg _ wt4_69) (hg _ wt1_20) hK hP hD hS 6 100 0 0 rfl rfl rfl rfl rfl (by decide) (by decide) (by decide) (by decide +kernel) (by decide +kernel) (fun i _ => rfl) (by decide) (Nat.le_of_ble_eq_true rfl) dX7_copyFrom_80 (fun H locs hP hD hS => ?_)
  have hP : va_P D vwCl (xX K r f_2 (va_up a_6 100 (va_cpy (a_6 6) (a_6 100) (0 : Int32).toNatClampNeg (0 : Int32).toNatClampNeg (10 : Int32).toNatClampNeg)) g (sI K r f_2 (va_up a_6 100 (va_cpy (a_6 6) (a_6 100) (0 : Int32).toNatClampNeg (0 : Int32).toNatClampNeg (10 : Int32).toNatClampNeg)) g ++ tx)) H := hP
  have hD : va_D A (xX K r f_2 (va_up a_6 100 (va_cpy (a_6 6) (a_6 100) (0 : Int32).toNatClampNeg (0 : Int32).toNatClampNeg (10 : Int32).toNatClampNeg)) g (sI K r f_2 (va_up a_6 100 (va_cpy (a_6 6) (a_6 100) (0 : Int32).toNatClampNeg (0 : Int32).toNatClampNeg (10 : Int32).toNatClampNeg)) g ++ tx)) := hD
  refine k_gen (P := fun z => va_P D vwCl (xX K r f_2 z g (sI K r f_2 z g ++ tx)) H ∧ va_D A (xX K r f_2 z g (sI K r f_2 z g ++ tx)) ∧ (xI f_2 z) ∧ (gOK K g.2 tt) ∧ (xEk ([3040, 3046, 3052, 3057, 3058], [96, 97, 98, 99, 100, 101, 102, 103, 104, 105, 106, 107, 108], [109]) f a g f_2 z g)) (va_up a_6 100 (va_cpy (a_6 6) (a_6 100) (0 : Int32).toNatClampNeg (0 : Int32).toNatClampNeg (10 : Int32).toNatClampNeg)) ⟨hP, hD, (xI_a hI (by decide)), hG, (xEk_a hE rfl)⟩ (fun a_7 ea_7 hq => ?_)
  obtain ⟨hP, hD, hI, hG, hE⟩ := hq
  refine lv_aload_n hx hb dX7_copyFrom_83 rfl (lv_at hl 0 rfl) ?_
  refine lv_aload_n hx hb dX7_copyFrom_84 rfl (lv_at hl 1 rfl) ?_
  refine va_get (D := D) (ci := 7) (v := .int (f_2 38)) (C := RX7) (T := TX7) (N := 20) hx hb hg inC7 hown hK hP 1 rfl rfl 6 (by decide) (hg _ wt1_104) (fun _ h9 => h9) rfl dX7_copyFrom_85 ?_
  refine k_top (z := s38) ((show f_2 38 = f 38 from by rw [← ef_2]; rfl).trans es38.symm) ?_
  refine va_put (D := D) (ci := 7) (v := .int s38) (ty := .int) (C := RX7) (T := TX7) (N := 20) hx hb hg inC7 tyX7 tyX7_ok nmX7 hown hK hP hD hS 95 rfl rfl 6 (by decide) (hg _ wt1_104) (fun _ h9 => h9) rfl (by decide +kernel) rfl rfl (Nat.le_of_ble_eq_true rfl) dX7_copyFrom_88 (fun H locs hP hD hS => ?_)
  have hP : va_P D vwCl (xX K r (upd f_2 3046 s38) a_7 g (sI K r (upd f_2 3046 s38) a_7 g ++ tx)) H := hP
  have hD : va_D A (xX K r (upd f_2 3046 s38) a_7 g (sI K r (upd f_2 3046 s38) a_7 g ++ tx)) := hD
  refine k_gen (P := fun z => va_P D vwCl (xX K r z a_7 g (sI K r z a_7 g ++ tx)) H ∧ va_D A (xX K r z a_7 g (sI K r z a_7 g ++ tx)) ∧ (xI z a_7) ∧ (gOK K g.2 tt) ∧ (xEk ([3040, 3046, 3052, 3057, 3058], [96, 97, 98, 99, 100, 101, 102, 103, 104, 105, 106, 107, 108], [109]) f a g z a_7 g)) (upd f_2 3046 s38) ⟨hP, hD, (xI_f hI (fI_st hI.1 3046 (kb_any _) (by decide) (by decide))), hG, (xEk_f hE rfl)⟩ (fun f_8 ef_8 hq => ?_)
  obtain ⟨hP, hD, hI, hG, hE⟩ := hq
  refine lv_aload_n hx hb dX7_copyFrom_91 rfl (lv_at hl 1 rfl) ?_
  refine va_get (D := D) (ci := 7) (v := .ref (r 7)) (C := RX7) (T := TX7) (N := 20) hx hb hg inC7 hown hK hP 1 rfl rfl 7 (by decide) (hg _ wt1_110) (fun _ h9 => h9) rfl dX7_copyFrom_92 ?_
  refine lv_iconst (v := 0) hx hb dX7_copyFrom_95 (by decide) ?_
  refine lv_aload_n hx hb dX7_copyFrom_96 rfl (lv_at hl 0 rfl) ?_
  refine va_get (D := D) (ci := 7) (v := .ref (r 101)) (C := RX7) (T := TX7) (N := 20) hx hb hg inC7 hown hK hP 95 rfl rfl 7 (by decide) (hg _ wt1_110) (fun _ h9 => h9) rfl dX7_copyFrom_97 ?_
  refine lv_iconst (v := 0) hx hb dX7_copyFrom_100 (by decide) ?_
  refine lv_bipush (v := 6) hx hb dX7_copyFrom_101 (by decide) ?_
  refine va_copyi (ty := .int) hx hb (hml.trans hl.1.symm) hown (hg _ wt4_83) (hg _ wt4_70) (hg _ wt4_69) (hg _ wt1_20) hK hP hD hS 7 101 0 0 rfl rfl rfl rfl rfl (by decide) (by decide) (by decide) (by decide +kernel) (by decide +kernel) (fun i _ => rfl) (by decide) (Nat.le_of_ble_eq_true rfl) dX7_copyFrom_103 (fun H locs hP hD hS => ?_)
  have hP : va_P D vwCl (xX K r f_8 (va_up a_7 101 (va_cpy (a_7 7) (a_7 101) (0 : Int32).toNatClampNeg (0 : Int32).toNatClampNeg (6 : Int32).toNatClampNeg)) g (sI K r f_8 (va_up a_7 101 (va_cpy (a_7 7) (a_7 101) (0 : Int32).toNatClampNeg (0 : Int32).toNatClampNeg (6 : Int32).toNatClampNeg)) g ++ tx)) H := hP
  have hD : va_D A (xX K r f_8 (va_up a_7 101 (va_cpy (a_7 7) (a_7 101) (0 : Int32).toNatClampNeg (0 : Int32).toNatClampNeg (6 : Int32).toNatClampNeg)) g (sI K r f_8 (va_up a_7 101 (va_cpy (a_7 7) (a_7 101) (0 : Int32).toNatClampNeg (0 : Int32).toNatClampNeg (6 : Int32).toNatClampNeg)) g ++ tx)) := hD
  refine k_gen (P := fun z => va_P D vwCl (xX K r f_8 z g (sI K r f_8 z g ++ tx)) H ∧ va_D A (xX K r f_8 z g (sI K r f_8 z g ++ tx)) ∧ (xI f_8 z) ∧ (gOK K g.2 tt) ∧ (xEk ([3040, 3046, 3052, 3057, 3058], [96, 97, 98, 99, 100, 101, 102, 103, 104, 105, 106, 107, 108], [109]) f a g f_8 z g)) (va_up a_7 101 (va_cpy (a_7 7) (a_7 101) (0 : Int32).toNatClampNeg (0 : Int32).toNatClampNeg (6 : Int32).toNatClampNeg)) ⟨hP, hD, (xI_a hI (by decide)), hG, (xEk_a hE rfl)⟩ (fun a_9 ea_9 hq => ?_)
  obtain ⟨hP, hD, hI, hG, hE⟩ := hq
  refine lv_aload_n hx hb dX7_copyFrom_106 rfl (lv_at hl 1 rfl) ?_
  refine va_get (D := D) (ci := 7) (v := .ref (r 8)) (C := RX7) (T := TX7) (N := 20) hx hb hg inC7 hown hK hP 1 rfl rfl 8 (by decide) (hg _ wt1_114) (fun _ h9 => h9) rfl dX7_copyFrom_107 ?_
  refine lv_iconst (v := 0) hx hb dX7_copyFrom_110 (by decide) ?_
  refine lv_aload_n hx hb dX7_copyFrom_111 rfl (lv_at hl 0 rfl) ?_
  refine va_get (D := D) (ci := 7) (v := .ref (r 102)) (C := RX7) (T := TX7) (N := 20) hx hb hg inC7 hown hK hP 95 rfl rfl 8 (by decide) (hg _ wt1_114) (fun _ h9 => h9) rfl dX7_copyFrom_112 ?_
  refine lv_iconst (v := 0) hx hb dX7_copyFrom_115 (by decide) ?_
  refine lv_bipush (v := 6) hx hb dX7_copyFrom_116 (by decide) ?_
  refine va_copyi (ty := .int) hx hb (hml.trans hl.1.symm) hown (hg _ wt4_83) (hg _ wt4_70) (hg _ wt4_69) (hg _ wt1_20) hK hP hD hS 8 102 0 0 rfl rfl rfl rfl rfl (by decide) (by decide) (by decide) (by decide +kernel) (by decide +kernel) (fun i _ => rfl) (by decide) (Nat.le_of_ble_eq_true rfl) dX7_copyFrom_118 (fun H locs hP hD hS => ?_)
  have hP : va_P D vwCl (xX K r f_8 (va_up a_9 102 (va_cpy (a_9 8) (a_9 102) (0 : Int32).toNatClampNeg (0 : Int32).toNatClampNeg (6 : Int32).toNatClampNeg)) g (sI K r f_8 (va_up a_9 102 (va_cpy (a_9 8) (a_9 102) (0 : Int32).toNatClampNeg (0 : Int32).toNatClampNeg (6 : Int32).toNatClampNeg)) g ++ tx)) H := hP
  have hD : va_D A (xX K r f_8 (va_up a_9 102 (va_cpy (a_9 8) (a_9 102) (0 : Int32).toNatClampNeg (0 : Int32).toNatClampNeg (6 : Int32).toNatClampNeg)) g (sI K r f_8 (va_up a_9 102 (va_cpy (a_9 8) (a_9 102) (0 : Int32).toNatClampNeg (0 : Int32).toNatClampNeg (6 : Int32).toNatClampNeg)) g ++ tx)) := hD
  refine k_gen (P := fun z => va_P D vwCl (xX K r f_8 z g (sI K r f_8 z g ++ tx)) H ∧ va_D A (xX K r f_8 z g (sI K r f_8 z g ++ tx)) ∧ (xI f_8 z) ∧ (gOK K g.2 tt) ∧ (xEk ([3040, 3046, 3052, 3057, 3058], [96, 97, 98, 99, 100, 101, 102, 103, 104, 105, 106, 107, 108], [109]) f a g f_8 z g)) (va_up a_9 102 (va_cpy (a_9 8) (a_9 102) (0 : Int32).toNatClampNeg (0 : Int32).toNatClampNeg (6 : Int32).toNatClampNeg)) ⟨hP, hD, (xI_a hI (by decide)), hG, (xEk_a hE rfl)⟩ (fun a_10 ea_10 hq => ?_)
  obtain ⟨hP, hD, hI, hG, hE⟩ := hq
  refine lv_aload_n hx hb dX7_copyFrom_121 rfl (lv_at hl 1 rfl) ?_
  refine va_get (D := D) (ci := 7) (v := .ref (r 9)) (C := RX7) (T := TX7) (N := 20) hx hb hg inC7 hown hK hP 1 rfl rfl 9 (by decide) (hg _ wt1_116) (fun _ h9 => h9) rfl dX7_copyFrom_122 ?_
  refine lv_iconst (v := 0) hx hb dX7_copyFrom_125 (by decide) ?_
  refine lv_aload_n hx hb dX7_copyFrom_126 rfl (lv_at hl 0 rfl) ?_
  refine va_get (D := D) (ci := 7) (v := .ref (r 103)) (C := RX7) (T := TX7) (N := 20) hx hb hg inC7 hown hK hP 95 rfl rfl 9 (by decide) (hg _ wt1_116) (fun _ h9 => h9) rfl dX7_copyFrom_127 ?_
  refine lv_iconst (v := 0) hx hb dX7_copyFrom_130 (by decide) ?_
  refine lv_bipush (v := 6) hx hb dX7_copyFrom_131 (by decide) ?_
  refine va_copyi (ty := .int) hx hb (hml.trans hl.1.symm) hown (hg _ wt4_83) (hg _ wt4_70) (hg _ wt4_69) (hg _ wt1_20) hK hP hD hS 9 103 0 0 rfl rfl rfl rfl rfl (by decide) (by decide) (by decide) (by decide +kernel) (by decide +kernel) (fun i _ => rfl) (by decide) (Nat.le_of_ble_eq_true rfl) dX7_copyFrom_133 (fun H locs hP hD hS => ?_)
  have hP : va_P D vwCl (xX K r f_8 (va_up a_10 103 (va_cpy (a_10 9) (a_10 103) (0 : Int32).toNatClampNeg (0 : Int32).toNatClampNeg (6 : Int32).toNatClampNeg)) g (sI K r f_8 (va_up a_10 103 (va_cpy (a_10 9) (a_10 103) (0 : Int32).toNatClampNeg (0 : Int32).toNatClampNeg (6 : Int32).toNatClampNeg)) g ++ tx)) H := hP
  have hD : va_D A (xX K r f_8 (va_up a_10 103 (va_cpy (a_10 9) (a_10 103) (0 : Int32).toNatClampNeg (0 : Int32).toNatClampNeg (6 : Int32).toNatClampNeg)) g (sI K r f_8 (va_up a_10 103 (va_cpy (a_10 9) (a_10 103) (0 : Int32).toNatClampNeg (0 : Int32).toNatClampNeg (6 : Int32).toNatClampNeg)) g ++ tx)) := hD
  refine k_gen (P := fun z => va_P D vwCl (xX K r f_8 z g (sI K r f_8 z g ++ tx)) H ∧ va_D A (xX K r f_8 z g (sI K r f_8 z g ++ tx)) ∧ (xI f_8 z) ∧ (gOK K g.2 tt) ∧ (xEk ([3040, 3046, 3052, 3057, 3058], [96, 97, 98, 99, 100, 101, 102, 103, 104, 105, 106, 107, 108], [109]) f a g f_8 z g)) (va_up a_10 103 (va_cpy (a_10 9) (a_10 103) (0 : Int32).toNatClampNeg (0 : Int32).toNatClampNeg (6 : Int32).toNatClampNeg)) ⟨hP, hD, (xI_a hI (by decide)), hG, (xEk_a hE rfl)⟩ (fun a_11 ea_11 hq => ?_)
  obtain ⟨hP, hD, hI, hG, hE⟩ := hq
  refine lv_aload_n hx hb dX7_copyFrom_136 rfl (lv_at hl 1 rfl) ?_
  refine va_get (D := D) (ci := 7) (v := .ref (r 10)) (C := RX7) (T := TX7) (N := 20) hx hb hg inC7 hown hK hP 1 rfl rfl 10 (by decide) (hg _ wt1_121) (fun _ h9 => h9) rfl dX7_copyFrom_137 ?_
  refine lv_iconst (v := 0) hx hb dX7_copyFrom_140 (by decide) ?_
  refine lv_aload_n hx hb dX7_copyFrom_141 rfl (lv_at hl 0 rfl) ?_
  refine va_get (D := D) (ci := 7) (v := .ref (r 104)) (C := RX7) (T := TX7) (N := 20) hx hb hg inC7 hown hK hP 95 rfl rfl 10 (by decide) (hg _ wt1_121) (fun _ h9 => h9) rfl dX7_copyFrom_142 ?_
  refine lv_iconst (v := 0) hx hb dX7_copyFrom_145 (by decide) ?_
  refine lv_bipush (v := 6) hx hb dX7_copyFrom_146 (by decide) ?_
  refine va_copyi (ty := .int) hx hb (hml.trans hl.1.symm) hown (hg _ wt4_83) (hg _ wt4_70) (hg _ wt4_69) (hg _ wt1_20) hK hP hD hS 10 104 0 0 rfl rfl rfl rfl rfl (by decide) (by decide) (by decide) (by decide +kernel) (by decide +kernel) (fun i _ => rfl) (by decide) (Nat.le_of_ble_eq_true rfl) dX7_copyFrom_148 (fun H locs hP hD hS => ?_)
  have hP : va_P D vwCl (xX K r f_8 (va_up a_11 104 (va_cpy (a_11 10) (a_11 104) (0 : Int32).toNatClampNeg (0 : Int32).toNatClampNeg (6 : Int32).toNatClampNeg)) g (sI K r f_8 (va_up a_11 104 (va_cpy (a_11 10) (a_11 104) (0 : Int32).toNatClampNeg (0 : Int32).toNatClampNeg (6 : Int32).toNatClampNeg)) g ++ tx)) H := hP
  have hD : va_D A (xX K r f_8 (va_up a_11 104 (va_cpy (a_11 10) (a_11 104) (0 : Int32).toNatClampNeg (0 : Int32).toNatClampNeg (6 : Int32).toNatClampNeg)) g (sI K r f_8 (va_up a_11 104 (va_cpy (a_11 10) (a_11 104) (0 : Int32).toNatClampNeg (0 : Int32).toNatClampNeg (6 : Int32).toNatClampNeg)) g ++ tx)) := hD
  refine k_gen (P := fun z => va_P D vwCl (xX K r f_8 z g (sI K r f_8 z g ++ tx)) H ∧ va_D A (xX K r f_8 z g (sI K r f_8 z g ++ tx)) ∧ (xI f_8 z) ∧ (gOK K g.2 tt) ∧ (xEk ([3040, 3046, 3052, 3057, 3058], [96, 97, 98, 99, 100, 101, 102, 103, 104, 105, 106, 107, 108], [109]) f a g f_8 z g)) (va_up a_11 104 (va_cpy (a_11 10) (a_11 104) (0 : Int32).toNatClampNeg (0 : Int32).toNatClampNeg (6 : Int32).toNatClampNeg)) ⟨hP, hD, (xI_a hI (by decide)), hG, (xEk_a hE rfl)⟩ (fun a_12 ea_12 hq => ?_)
  obtain ⟨hP, hD, hI, hG, hE⟩ := hq
  refine lv_aload_n hx hb dX7_copyFrom_151 rfl (lv_at hl 1 rfl) ?_
  refine va_get (D := D) (ci := 7) (v := .ref (r 11)) (C := RX7) (T := TX7) (N := 20) hx hb hg inC7 hown hK hP 1 rfl rfl 11 (by decide) (hg _ wt1_127) (fun _ h9 => h9) rfl dX7_copyFrom_152 ?_
  refine lv_iconst (v := 0) hx hb dX7_copyFrom_155 (by decide) ?_
  refine lv_aload_n hx hb dX7_copyFrom_156 rfl (lv_at hl 0 rfl) ?_
  refine va_get (D := D) (ci := 7) (v := .ref (r 105)) (C := RX7) (T := TX7) (N := 20) hx hb hg inC7 hown hK hP 95 rfl rfl 11 (by decide) (hg _ wt1_127) (fun _ h9 => h9) rfl dX7_copyFrom_157 ?_
  refine lv_iconst (v := 0) hx hb dX7_copyFrom_160 (by decide) ?_
  refine lv_iconst (v := 4) hx hb dX7_copyFrom_161 (by decide) ?_
  refine va_copyi (ty := .int) hx hb (hml.trans hl.1.symm) hown (hg _ wt4_83) (hg _ wt4_70) (hg _ wt4_69) (hg _ wt1_20) hK hP hD hS 11 105 0 0 rfl rfl rfl rfl rfl (by decide) (by decide) (by decide) (by decide +kernel) (by decide +kernel) (fun i _ => rfl) (by decide) (Nat.le_of_ble_eq_true rfl) dX7_copyFrom_162 (fun H locs hP hD hS => ?_)
  have hP : va_P D vwCl (xX K r f_8 (va_up a_12 105 (va_cpy (a_12 11) (a_12 105) (0 : Int32).toNatClampNeg (0 : Int32).toNatClampNeg (4 : Int32).toNatClampNeg)) g (sI K r f_8 (va_up a_12 105 (va_cpy (a_12 11) (a_12 105) (0 : Int32).toNatClampNeg (0 : Int32).toNatClampNeg (4 : Int32).toNatClampNeg)) g ++ tx)) H := hP
  have hD : va_D A (xX K r f_8 (va_up a_12 105 (va_cpy (a_12 11) (a_12 105) (0 : Int32).toNatClampNeg (0 : Int32).toNatClampNeg (4 : Int32).toNatClampNeg)) g (sI K r f_8 (va_up a_12 105 (va_cpy (a_12 11) (a_12 105) (0 : Int32).toNatClampNeg (0 : Int32).toNatClampNeg (4 : Int32).toNatClampNeg)) g ++ tx)) := hD
  refine k_gen (P := fun z => va_P D vwCl (xX K r f_8 z g (sI K r f_8 z g ++ tx)) H ∧ va_D A (xX K r f_8 z g (sI K r f_8 z g ++ tx)) ∧ (xI f_8 z) ∧ (gOK K g.2 tt) ∧ (xEk ([3040, 3046, 3052, 3057, 3058], [96, 97, 98, 99, 100, 101, 102, 103, 104, 105, 106, 107, 108], [109]) f a g f_8 z g)) (va_up a_12 105 (va_cpy (a_12 11) (a_12 105) (0 : Int32).toNatClampNeg (0 : Int32).toNatClampNeg (4 : Int32).toNatClampNeg)) ⟨hP, hD, (xI_a hI (by decide)), hG, (xEk_a hE rfl)⟩ (fun a_13 ea_13 hq => ?_)
  obtain ⟨hP, hD, hI, hG, hE⟩ := hq
  refine lv_aload_n hx hb dX7_copyFrom_165 rfl (lv_at hl 0 rfl) ?_
  refine lv_aload_n hx hb dX7_copyFrom_166 rfl (lv_at hl 1 rfl) ?_
  refine va_get (D := D) (ci := 7) (v := .int (f_8 44)) (C := RX7) (T := TX7) (N := 20) hx hb hg inC7 hown hK hP 1 rfl rfl 12 (by decide) (hg _ wt1_135) (fun _ h9 => h9) rfl dX7_copyFrom_167 ?_
  refine k_top (z := s44) ((show f_8 44 = f_2 44 from by rw [← ef_8]; rfl).trans ((show f_2 44 = f 44 from by rw [← ef_2]; rfl).trans es44.symm)) ?_
  refine va_put (D := D) (ci := 7) (v := .int s44) (ty := .int) (C := RX7) (T := TX7) (N := 20) hx hb hg inC7 tyX7 tyX7_ok nmX7 hown hK hP hD hS 95 rfl rfl 12 (by decide) (hg _ wt1_135) (fun _ h9 => h9) rfl (by decide +kernel) rfl rfl (Nat.le_of_ble_eq_true rfl) dX7_copyFrom_170 (fun H locs hP hD hS => ?_)
  have hP : va_P D vwCl (xX K r (upd f_8 3052 s44) a_13 g (sI K r (upd f_8 3052 s44) a_13 g ++ tx)) H := hP
  have hD : va_D A (xX K r (upd f_8 3052 s44) a_13 g (sI K r (upd f_8 3052 s44) a_13 g ++ tx)) := hD
  refine k_gen (P := fun z => va_P D vwCl (xX K r z a_13 g (sI K r z a_13 g ++ tx)) H ∧ va_D A (xX K r z a_13 g (sI K r z a_13 g ++ tx)) ∧ (xI z a_13) ∧ (gOK K g.2 tt) ∧ (xEk ([3040, 3046, 3052, 3057, 3058], [96, 97, 98, 99, 100, 101, 102, 103, 104, 105, 106, 107, 108], [109]) f a g z a_13 g)) (upd f_8 3052 s44) ⟨hP, hD, (xI_f hI (fI_st hI.1 3052 (kb_any _) (by decide) (by decide))), hG, (xEk_f hE rfl)⟩ (fun f_14 ef_14 hq => ?_)
  obtain ⟨hP, hD, hI, hG, hE⟩ := hq
  refine lv_aload_n hx hb dX7_copyFrom_173 rfl (lv_at hl 1 rfl) ?_
  refine va_get (D := D) (ci := 7) (v := .ref (r 12)) (C := RX7) (T := TX7) (N := 20) hx hb hg inC7 hown hK hP 1 rfl rfl 13 (by decide) (hg _ wt1_138) (fun _ h9 => h9) rfl dX7_copyFrom_174 ?_
  refine lv_iconst (v := 0) hx hb dX7_copyFrom_177 (by decide) ?_
  refine lv_aload_n hx hb dX7_copyFrom_178 rfl (lv_at hl 0 rfl) ?_
  refine va_get (D := D) (ci := 7) (v := .ref (r 106)) (C := RX7) (T := TX7) (N := 20) hx hb hg inC7 hown hK hP 95 rfl rfl 13 (by decide) (hg _ wt1_138) (fun _ h9 => h9) rfl dX7_copyFrom_179 ?_
  refine lv_iconst (v := 0) hx hb dX7_copyFrom_182 (by decide) ?_
  refine lv_bipush (v := 8) hx hb dX7_copyFrom_183 (by decide) ?_
  refine va_copyi (ty := .int) hx hb (hml.trans hl.1.symm) hown (hg _ wt4_83) (hg _ wt4_70) (hg _ wt4_69) (hg _ wt1_20) hK hP hD hS 12 106 0 0 rfl rfl rfl rfl rfl (by decide) (by decide) (by decide) (by decide +kernel) (by decide +kernel) (fun i _ => rfl) (by decide) (Nat.le_of_ble_eq_true rfl) dX7_copyFrom_185 (fun H locs hP hD hS => ?_)
  have hP : va_P D vwCl (xX K r f_14 (va_up a_13 106 (va_cpy (a_13 12) (a_13 106) (0 : Int32).toNatClampNeg (0 : Int32).toNatClampNeg (8 : Int32).toNatClampNeg)) g (sI K r f_14 (va_up a_13 106 (va_cpy (a_13 12) (a_13 106) (0 : Int32).toNatClampNeg (0 : Int32).toNatClampNeg (8 : Int32).toNatClampNeg)) g ++ tx)) H := hP
  have hD : va_D A (xX K r f_14 (va_up a_13 106 (va_cpy (a_13 12) (a_13 106) (0 : Int32).toNatClampNeg (0 : Int32).toNatClampNeg (8 : Int32).toNatClampNeg)) g (sI K r f_14 (va_up a_13 106 (va_cpy (a_13 12) (a_13 106) (0 : Int32).toNatClampNeg (0 : Int32).toNatClampNeg (8 : Int32).toNatClampNeg)) g ++ tx)) := hD
  refine k_gen (P := fun z => va_P D vwCl (xX K r f_14 z g (sI K r f_14 z g ++ tx)) H ∧ va_D A (xX K r f_14 z g (sI K r f_14 z g ++ tx)) ∧ (xI f_14 z) ∧ (gOK K g.2 tt) ∧ (xEk ([3040, 3046, 3052, 3057, 3058], [96, 97, 98, 99, 100, 101, 102, 103, 104, 105, 106, 107, 108], [109]) f a g f_14 z g)) (va_up a_13 106 (va_cpy (a_13 12) (a_13 106) (0 : Int32).toNatClampNeg (0 : Int32).toNatClampNeg (8 : Int32).toNatClampNeg)) ⟨hP, hD, (xI_a hI (by decide)), hG, (xEk_a hE rfl)⟩ (fun a_15 ea_15 hq => ?_)
  obtain ⟨hP, hD, hI, hG, hE⟩ := hq
  refine lv_aload_n hx hb dX7_copyFrom_188 rfl (lv_at hl 1 rfl) ?_
  refine va_get (D := D) (ci := 7) (v := .ref (r 13)) (C := RX7) (T := TX7) (N := 20) hx hb hg inC7 hown hK hP 1 rfl rfl 14 (by decide) (hg _ wt1_141) (fun _ h9 => h9) rfl dX7_copyFrom_189 ?_
  refine lv_iconst (v := 0) hx hb dX7_copyFrom_192 (by decide) ?_
  refine lv_aload_n hx hb dX7_copyFrom_193 rfl (lv_at hl 0 rfl) ?_
  refine va_get (D := D) (ci := 7) (v := .ref (r 107)) (C := RX7) (T := TX7) (N := 20) hx hb hg inC7 hown hK hP 95 rfl rfl 14 (by decide) (hg _ wt1_141) (fun _ h9 => h9) rfl dX7_copyFrom_194 ?_
  refine lv_iconst (v := 0) hx hb dX7_copyFrom_197 (by decide) ?_
  refine lv_bipush (v := 8) hx hb dX7_copyFrom_198 (by decide) ?_
  refine va_copyi (ty := .int) hx hb (hml.trans hl.1.symm) hown (hg _ wt4_83) (hg _ wt4_70) (hg _ wt4_69) (hg _ wt1_20) hK hP hD hS 13 107 0 0 rfl rfl rfl rfl rfl (by decide) (by decide) (by decide) (by decide +kernel) (by decide +kernel) (fun i _ => rfl) (by decide) (Nat.le_of_ble_eq_true rfl) dX7_copyFrom_200 (fun H locs hP hD hS => ?_)
  have hP : va_P D vwCl (xX K r f_14 (va_up a_15 107 (va_cpy (a_15 13) (a_15 107) (0 : Int32).toNatClampNeg (0 : Int32).toNatClampNeg (8 : Int32).toNatClampNeg)) g (sI K r f_14 (va_up a_15 107 (va_cpy (a_15 13) (a_15 107) (0 : Int32).toNatClampNeg (0 : Int32).toNatClampNeg (8 : Int32).toNatClampNeg)) g ++ tx)) H := hP
  have hD : va_D A (xX K r f_14 (va_up a_15 107 (va_cpy (a_15 13) (a_15 107) (0 : Int32).toNatClampNeg (0 : Int32).toNatClampNeg (8 : Int32).toNatClampNeg)) g (sI K r f_14 (va_up a_15 107 (va_cpy (a_15 13) (a_15 107) (0 : Int32).toNatClampNeg (0 : Int32).toNatClampNeg (8 : Int32).toNatClampNeg)) g ++ tx)) := hD
  refine k_gen (P := fun z => va_P D vwCl (xX K r f_14 z g (sI K r f_14 z g ++ tx)) H ∧ va_D A (xX K r f_14 z g (sI K r f_14 z g ++ tx)) ∧ (xI f_14 z) ∧ (gOK K g.2 tt) ∧ (xEk ([3040, 3046, 3052, 3057, 3058], [96, 97, 98, 99, 100, 101, 102, 103, 104, 105, 106, 107, 108], [109]) f a g f_14 z g)) (va_up a_15 107 (va_cpy (a_15 13) (a_15 107) (0 : Int32).toNatClampNeg (0 : Int32).toNatClampNeg (8 : Int32).toNatClampNeg)) ⟨hP, hD, (xI_a hI (by decide)), hG, (xEk_a hE rfl)⟩ (fun a_16 ea_16 hq => ?_)
  obtain ⟨hP, hD, hI, hG, hE⟩ := hq
  refine lv_aload_n hx hb dX7_copyFrom_203 rfl (lv_at hl 1 rfl) ?_
  refine va_get (D := D) (ci := 7) (v := .ref (r 14)) (C := RX7) (T := TX7) (N := 20) hx hb hg inC7 hown hK hP 1 rfl rfl 15 (by decide) (hg _ wt1_144) (fun _ h9 => h9) rfl dX7_copyFrom_204 ?_
  refine lv_iconst (v := 0) hx hb dX7_copyFrom_207 (by decide) ?_
  refine lv_aload_n hx hb dX7_copyFrom_208 rfl (lv_at hl 0 rfl) ?_
  refine va_get (D := D) (ci := 7) (v := .ref (r 108)) (C := RX7) (T := TX7) (N := 20) hx hb hg inC7 hown hK hP 95 rfl rfl 15 (by decide) (hg _ wt1_144) (fun _ h9 => h9) rfl dX7_copyFrom_209 ?_
  refine lv_iconst (v := 0) hx hb dX7_copyFrom_212 (by decide) ?_
  refine lv_bipush (v := 8) hx hb dX7_copyFrom_213 (by decide) ?_
  refine va_copyi (ty := .int) hx hb (hml.trans hl.1.symm) hown (hg _ wt4_83) (hg _ wt4_70) (hg _ wt4_69) (hg _ wt1_20) hK hP hD hS 14 108 0 0 rfl rfl rfl rfl rfl (by decide) (by decide) (by decide) (by decide +kernel) (by decide +kernel) (fun i _ => rfl) (by decide) (Nat.le_of_ble_eq_true rfl) dX7_copyFrom_215 (fun H locs hP hD hS => ?_)
  have hP : va_P D vwCl (xX K r f_14 (va_up a_16 108 (va_cpy (a_16 14) (a_16 108) (0 : Int32).toNatClampNeg (0 : Int32).toNatClampNeg (8 : Int32).toNatClampNeg)) g (sI K r f_14 (va_up a_16 108 (va_cpy (a_16 14) (a_16 108) (0 : Int32).toNatClampNeg (0 : Int32).toNatClampNeg (8 : Int32).toNatClampNeg)) g ++ tx)) H := hP
  have hD : va_D A (xX K r f_14 (va_up a_16 108 (va_cpy (a_16 14) (a_16 108) (0 : Int32).toNatClampNeg (0 : Int32).toNatClampNeg (8 : Int32).toNatClampNeg)) g (sI K r f_14 (va_up a_16 108 (va_cpy (a_16 14) (a_16 108) (0 : Int32).toNatClampNeg (0 : Int32).toNatClampNeg (8 : Int32).toNatClampNeg)) g ++ tx)) := hD
  refine k_gen (P := fun z => va_P D vwCl (xX K r f_14 z g (sI K r f_14 z g ++ tx)) H ∧ va_D A (xX K r f_14 z g (sI K r f_14 z g ++ tx)) ∧ (xI f_14 z) ∧ (gOK K g.2 tt) ∧ (xEk ([3040, 3046, 3052, 3057, 3058], [96, 97, 98, 99, 100, 101, 102, 103, 104, 105, 106, 107, 108], [109]) f a g f_14 z g)) (va_up a_16 108 (va_cpy (a_16 14) (a_16 108) (0 : Int32).toNatClampNeg (0 : Int32).toNatClampNeg (8 : Int32).toNatClampNeg)) ⟨hP, hD, (xI_a hI (by decide)), hG, (xEk_a hE rfl)⟩ (fun a_17 ea_17 hq => ?_)
  obtain ⟨hP, hD, hI, hG, hE⟩ := hq
  refine lv_iconst (v := 0) hx hb dX7_copyFrom_218 (by decide) ?_
  refine lv_istore_n (lv' := [(2, .int 0), (0, .ref (r 95)), (1, .ref (r 1))]) hx hb dX7_copyFrom_219 rfl hl (by decide) rfl (fun ls hl => ?_)
  have lp20 : ∀ (n21 : Nat) (nn : Nat) (G19 : xG) (H : Heap) (locs : List Loc) (ls : Array Slot) (y18 : Int32), (6 < y18.toInt + (n21 : Int)) → (xI f_14 a_17) → (gOK K G19.2 tt) → (xEk ([3040, 3046, 3052, 3057, 3058], [96, 97, 98, 99, 100, 101, 102, 103, 104, 105, 106, 107, 108], [109]) f a g f_14 a_17 G19) → (kb 0 y18 6) → (y18.toInt = (nn : Int)) → (∀ i, i < nn → G19.2 109 i = g.2 15 i) → (nn ≤ 6) → va_P D vwCl (xX K r f_14 a_17 G19 (sI K r f_14 a_17 G19 ++ tx)) H → va_D A (xX K r f_14 a_17 G19 (sI K r f_14 a_17 G19 ++ tx)) → va_S A s.heap H locs → lv_has ls 3 [(2, .int y18), (0, .ref (r 95)), (1, .ref (r 1))] → W p l e (rmD 2 0 0) s m ([.ref (r 95), .ref (r 1)] : List Value).toArray below meth c H locs 0 0 (kQv D (tysK K) (fun (u : xS) => xI u.1 u.2.1 ∧ gOK K u.2.2.2 tt ∧ xEk ([3040, 3046, 3052, 3057, 3058], [96, 97, 98, 99, 100, 101, 102, 103, 104, 105, 106, 107, 108], [109]) f a g u.1 u.2.1 u.2.2 ∧ sV 3040 96 u.1 u.2.1 k ∧ (∀ i, i < 6 → u.2.2.2 109 i = g.2 15 i)) (fun u => xX K r u.1 u.2.1 u.2.2 (sI K r u.1 u.2.1 u.2.2 ++ tx)) A below ([.ref (r 95), .ref (r 1)] : List Value).toArray s 0 0) (F0 m 220 ls []) := by
    intro n21
    induction n21 with
    | zero =>
      intro nn G19  H locs ls y18 hmlp20 hI hG hE b22 hvlp20_0 hvlp20_1 hvlp20_2 hP hD hS hl
      exact (by have h1 := b22.2; have h2 := hmlp20; omega : False).elim
    | succ n21 ihlp20 =>
      intro nn G19  H locs ls y18 hmlp20 hI hG hE b22 hvlp20_0 hvlp20_1 hvlp20_2 hP hD hS hl
      have hnn : y18 = nI nn := nI_q hvlp20_0
      have hE9 := hE
      refine lv_iload_n hx hb dX7_copyFrom_220 rfl (lv_at hl 0 rfl) ?_
      refine lv_bipush (v := 6) hx hb dX7_copyFrom_221 (by decide) ?_
      refine lv_icmp_ge (tgt := 244) hx hb dX7_copyFrom_223 (by decide) (fun c23 => ?_) (fun c23 => ?_)
      · have h24 := (kc_le c23)
        have b25 : kb 6 y18 6 := kr_le2 h24 kc_6 b22
        refine lv_aload_n hx hb dX7_copyFrom_244 rfl (lv_at hl 1 rfl) ?_
        refine lv_aload_n hx hb dX7_copyFrom_245 rfl (lv_at hl 2 rfl) ?_
        refine va_get (D := D) (ci := 7) (v := .int (f_14 49)) (C := RX7) (T := TX7) (N := 20) hx hb hg inC7 hown hK hP 1 rfl rfl 17 (by decide) (hg _ wt1_149) (fun _ h9 => h9) rfl dX7_copyFrom_246 ?_
        refine k_top (z := s49) ((show f_14 49 = f_8 49 from by rw [← ef_14]; rfl).trans ((show f_8 49 = f_2 49 from by rw [← ef_8]; rfl).trans ((show f_2 49 = f 49 from by rw [← ef_2]; rfl).trans es49.symm))) ?_
        refine va_put (D := D) (ci := 7) (v := .int s49) (ty := .int) (C := RX7) (T := TX7) (N := 20) hx hb hg inC7 tyX7 tyX7_ok nmX7 hown hK hP hD hS 95 rfl rfl 17 (by decide) (hg _ wt1_149) (fun _ h9 => h9) rfl (by decide +kernel) rfl rfl (Nat.le_of_ble_eq_true rfl) dX7_copyFrom_249 (fun H locs hP hD hS => ?_)
        have hP : va_P D vwCl (xX K r (upd f_14 3057 s49) a_17 G19 (sI K r (upd f_14 3057 s49) a_17 G19 ++ tx)) H := hP
        have hD : va_D A (xX K r (upd f_14 3057 s49) a_17 G19 (sI K r (upd f_14 3057 s49) a_17 G19 ++ tx)) := hD
        refine k_gen (P := fun z => va_P D vwCl (xX K r z a_17 G19 (sI K r z a_17 G19 ++ tx)) H ∧ va_D A (xX K r z a_17 G19 (sI K r z a_17 G19 ++ tx)) ∧ (xI z a_17) ∧ (gOK K G19.2 tt) ∧ (xEk ([3040, 3046, 3052, 3057, 3058], [96, 97, 98, 99, 100, 101, 102, 103, 104, 105, 106, 107, 108], [109]) f a g z a_17 G19)) (upd f_14 3057 s49) ⟨hP, hD, (xI_f hI (fI_st hI.1 3057 (kb_any _) (by decide) (by decide))), hG, (xEk_f hE rfl)⟩ (fun f_26 ef_26 hq => ?_)
        obtain ⟨hP, hD, hI, hG, hE⟩ := hq
        refine lv_aload_n hx hb dX7_copyFrom_252 rfl (lv_at hl 1 rfl) ?_
        refine lv_aload_n hx hb dX7_copyFrom_253 rfl (lv_at hl 2 rfl) ?_
        refine va_get (D := D) (ci := 7) (v := .int (f_26 50)) (C := RX7) (T := TX7) (N := 20) hx hb hg inC7 hown hK hP 1 rfl rfl 18 (by decide) (hg _ wt1_151) (fun _ h9 => h9) rfl dX7_copyFrom_254 ?_
        refine k_top (z := s50) ((show f_26 50 = f_14 50 from by rw [← ef_26]; rfl).trans ((show f_14 50 = f_8 50 from by rw [← ef_14]; rfl).trans ((show f_8 50 = f_2 50 from by rw [← ef_8]; rfl).trans ((show f_2 50 = f 50 from by rw [← ef_2]; rfl).trans es50.symm)))) ?_
        refine va_put (D := D) (ci := 7) (v := .int s50) (ty := .int) (C := RX7) (T := TX7) (N := 20) hx hb hg inC7 tyX7 tyX7_ok nmX7 hown hK hP hD hS 95 rfl rfl 18 (by decide) (hg _ wt1_151) (fun _ h9 => h9) rfl (by decide +kernel) rfl rfl (Nat.le_of_ble_eq_true rfl) dX7_copyFrom_257 (fun H locs hP hD hS => ?_)
        have hP : va_P D vwCl (xX K r (upd f_26 3058 s50) a_17 G19 (sI K r (upd f_26 3058 s50) a_17 G19 ++ tx)) H := hP
        have hD : va_D A (xX K r (upd f_26 3058 s50) a_17 G19 (sI K r (upd f_26 3058 s50) a_17 G19 ++ tx)) := hD
        refine k_gen (P := fun z => va_P D vwCl (xX K r z a_17 G19 (sI K r z a_17 G19 ++ tx)) H ∧ va_D A (xX K r z a_17 G19 (sI K r z a_17 G19 ++ tx)) ∧ (xI z a_17) ∧ (gOK K G19.2 tt) ∧ (xEk ([3040, 3046, 3052, 3057, 3058], [96, 97, 98, 99, 100, 101, 102, 103, 104, 105, 106, 107, 108], [109]) f a g z a_17 G19)) (upd f_26 3058 s50) ⟨hP, hD, (xI_f hI (fI_st hI.1 3058 (kb_any _) (by decide) (by decide))), hG, (xEk_f hE rfl)⟩ (fun f_27 ef_27 hq => ?_)
        obtain ⟨hP, hD, hI, hG, hE⟩ := hq
        exact kV_ret hx hb hr hlocks hK hS dX7_copyFrom_260 (f_27, a_17, G19) hP hD ⟨hI, hG, hE, (sV_cp hVw ((((show f_27 3040 = f_26 3040 from by rw [← ef_27]; rfl).trans ((show f_26 3040 = f_14 3040 from by rw [← ef_26]; rfl).trans ((show f_14 3040 = f_8 3040 from by rw [← ef_14]; rfl).trans ((show f_8 3040 = f_2 3040 from by rw [← ef_8]; rfl).trans (show f_2 3040 = s32 from by rw [← ef_2]; rfl)))))).trans es32) ((((show f_27 3046 = f_26 3046 from by rw [← ef_27]; rfl).trans ((show f_26 3046 = f_14 3046 from by rw [← ef_26]; rfl).trans ((show f_14 3046 = f_8 3046 from by rw [← ef_14]; rfl).trans (show f_8 3046 = s38 from by rw [← ef_8]; rfl))))).trans es38) ((((show f_27 3052 = f_26 3052 from by rw [← ef_27]; rfl).trans ((show f_26 3052 = f_14 3052 from by rw [← ef_26]; rfl).trans (show f_14 3052 = s44 from by rw [← ef_14]; rfl)))).trans es44) ((((show f_27 3057 = f_26 3057 from by rw [← ef_27]; rfl).trans (show f_26 3057 = s49 from by rw [← ef_26]; rfl))).trans es49) (((show f_27 3058 = s50 from by rw [← ef_27]; rfl)).trans es50) (fun i hi => (congrFun ((show a_17 96 = a_16 96 from by rw [← ea_17]; rfl).trans ((show a_16 96 = a_15 96 from by rw [← ea_16]; rfl).trans ((show a_15 96 = a_13 96 from by rw [← ea_15]; rfl).trans ((show a_13 96 = a_12 96 from by rw [← ea_13]; rfl).trans ((show a_12 96 = a_11 96 from by rw [← ea_12]; rfl).trans ((show a_11 96 = a_10 96 from by rw [← ea_11]; rfl).trans ((show a_10 96 = a_9 96 from by rw [← ea_10]; rfl).trans ((show a_9 96 = a_7 96 from by rw [← ea_9]; rfl).trans ((show a_7 96 = a_6 96 from by rw [← ea_7]; rfl).trans ((show a_6 96 = a_5 96 from by rw [← ea_6]; rfl).trans ((show a_5 96 = a_4 96 from by rw [← ea_5]; rfl).trans (show a_4 96 = a_3 96 from by rw [← ea_4]; rfl)))))))))))) i).trans ((cp_z (n := 10) (show a_3 96 = _ from by rw [← ea_3]; rfl) (by decide +kernel) (by decide +kernel) (by decide +kernel) i hi).trans (congrFun rfl i))) (fun i hi => (congrFun ((show a_17 97 = a_16 97 from by rw [← ea_17]; rfl).trans ((show a_16 97 = a_15 97 from by rw [← ea_16]; rfl).trans ((show a_15 97 = a_13 97 from by rw [← ea_15]; rfl).trans ((show a_13 97 = a_12 97 from by rw [← ea_13]; rfl).trans ((show a_12 97 = a_11 97 from by rw [← ea_12]; rfl).trans ((show a_11 97 = a_10 97 from by rw [← ea_11]; rfl).trans ((show a_10 97 = a_9 97 from by rw [← ea_10]; rfl).trans ((show a_9 97 = a_7 97 from by rw [← ea_9]; rfl).trans ((show a_7 97 = a_6 97 from by rw [← ea_7]; rfl).trans ((show a_6 97 = a_5 97 from by rw [← ea_6]; rfl).trans (show a_5 97 = a_4 97 from by rw [← ea_5]; rfl))))))))))) i).trans ((cp_z (n := 10) (show a_4 97 = _ from by rw [← ea_4]; rfl) (by decide +kernel) (by decide +kernel) (by decide +kernel) i hi).trans (congrFun (show a_3 3 = a 3 from by rw [← ea_3]; rfl) i))) (fun i hi => (congrFun ((show a_17 98 = a_16 98 from by rw [← ea_17]; rfl).trans ((show a_16 98 = a_15 98 from by rw [← ea_16]; rfl).trans ((show a_15 98 = a_13 98 from by rw [← ea_15]; rfl).trans ((show a_13 98 = a_12 98 from by rw [← ea_13]; rfl).trans ((show a_12 98 = a_11 98 from by rw [← ea_12]; rfl).trans ((show a_11 98 = a_10 98 from by rw [← ea_11]; rfl).trans ((show a_10 98 = a_9 98 from by rw [← ea_10]; rfl).trans ((show a_9 98 = a_7 98 from by rw [← ea_9]; rfl).trans ((show a_7 98 = a_6 98 from by rw [← ea_7]; rfl).trans (show a_6 98 = a_5 98 from by rw [← ea_6]; rfl)))))))))) i).trans ((cp_z (n := 10) (show a_5 98 = _ from by rw [← ea_5]; rfl) (by decide +kernel) (by decide +kernel) (by decide +kernel) i hi).trans (congrFun ((show a_4 4 = a_3 4 from by rw [← ea_4]; rfl).trans (show a_3 4 = a 4 from by rw [← ea_3]; rfl)) i))) (fun i hi => (congrFun ((show a_17 99 = a_16 99 from by rw [← ea_17]; rfl).trans ((show a_16 99 = a_15 99 from by rw [← ea_16]; rfl).trans ((show a_15 99 = a_13 99 from by rw [← ea_15]; rfl).trans ((show a_13 99 = a_12 99 from by rw [← ea_13]; rfl).trans ((show a_12 99 = a_11 99 from by rw [← ea_12]; rfl).trans ((show a_11 99 = a_10 99 from by rw [← ea_11]; rfl).trans ((show a_10 99 = a_9 99 from by rw [← ea_10]; rfl).trans ((show a_9 99 = a_7 99 from by rw [← ea_9]; rfl).trans (show a_7 99 = a_6 99 from by rw [← ea_7]; rfl))))))))) i).trans ((cp_z (n := 10) (show a_6 99 = _ from by rw [← ea_6]; rfl) (by decide +kernel) (by decide +kernel) (by decide +kernel) i hi).trans (congrFun ((show a_5 5 = a_4 5 from by rw [← ea_5]; rfl).trans ((show a_4 5 = a_3 5 from by rw [← ea_4]; rfl).trans (show a_3 5 = a 5 from by rw [← ea_3]; rfl))) i))) (fun i hi => (congrFun ((show a_17 100 = a_16 100 from by rw [← ea_17]; rfl).trans ((show a_16 100 = a_15 100 from by rw [← ea_16]; rfl).trans ((show a_15 100 = a_13 100 from by rw [← ea_15]; rfl).trans ((show a_13 100 = a_12 100 from by rw [← ea_13]; rfl).trans ((show a_12 100 = a_11 100 from by rw [← ea_12]; rfl).trans ((show a_11 100 = a_10 100 from by rw [← ea_11]; rfl).trans ((show a_10 100 = a_9 100 from by rw [← ea_10]; rfl).trans (show a_9 100 = a_7 100 from by rw [← ea_9]; rfl)))))))) i).trans ((cp_z (n := 10) (show a_7 100 = _ from by rw [← ea_7]; rfl) (by decide +kernel) (by decide +kernel) (by decide +kernel) i hi).trans (congrFun ((show a_6 6 = a_5 6 from by rw [← ea_6]; rfl).trans ((show a_5 6 = a_4 6 from by rw [← ea_5]; rfl).trans ((show a_4 6 = a_3 6 from by rw [← ea_4]; rfl).trans (show a_3 6 = a 6 from by rw [← ea_3]; rfl)))) i))) (fun i hi => (congrFun ((show a_17 101 = a_16 101 from by rw [← ea_17]; rfl).trans ((show a_16 101 = a_15 101 from by rw [← ea_16]; rfl).trans ((show a_15 101 = a_13 101 from by rw [← ea_15]; rfl).trans ((show a_13 101 = a_12 101 from by rw [← ea_13]; rfl).trans ((show a_12 101 = a_11 101 from by rw [← ea_12]; rfl).trans ((show a_11 101 = a_10 101 from by rw [← ea_11]; rfl).trans (show a_10 101 = a_9 101 from by rw [← ea_10]; rfl))))))) i).trans ((cp_z (n := 6) (show a_9 101 = _ from by rw [← ea_9]; rfl) (by decide +kernel) (by decide +kernel) (by decide +kernel) i hi).trans (congrFun ((show a_7 7 = a_6 7 from by rw [← ea_7]; rfl).trans ((show a_6 7 = a_5 7 from by rw [← ea_6]; rfl).trans ((show a_5 7 = a_4 7 from by rw [← ea_5]; rfl).trans ((show a_4 7 = a_3 7 from by rw [← ea_4]; rfl).trans (show a_3 7 = a 7 from by rw [← ea_3]; rfl))))) i))) (fun i hi => (congrFun ((show a_17 102 = a_16 102 from by rw [← ea_17]; rfl).trans ((show a_16 102 = a_15 102 from by rw [← ea_16]; rfl).trans ((show a_15 102 = a_13 102 from by rw [← ea_15]; rfl).trans ((show a_13 102 = a_12 102 from by rw [← ea_13]; rfl).trans ((show a_12 102 = a_11 102 from by rw [← ea_12]; rfl).trans (show a_11 102 = a_10 102 from by rw [← ea_11]; rfl)))))) i).trans ((cp_z (n := 6) (show a_10 102 = _ from by rw [← ea_10]; rfl) (by decide +kernel) (by decide +kernel) (by decide +kernel) i hi).trans (congrFun ((show a_9 8 = a_7 8 from by rw [← ea_9]; rfl).trans ((show a_7 8 = a_6 8 from by rw [← ea_7]; rfl).trans ((show a_6 8 = a_5 8 from by rw [← ea_6]; rfl).trans ((show a_5 8 = a_4 8 from by rw [← ea_5]; rfl).trans ((show a_4 8 = a_3 8 from by rw [← ea_4]; rfl).trans (show a_3 8 = a 8 from by rw [← ea_3]; rfl)))))) i))) (fun i hi => (congrFun ((show a_17 103 = a_16 103 from by rw [← ea_17]; rfl).trans ((show a_16 103 = a_15 103 from by rw [← ea_16]; rfl).trans ((show a_15 103 = a_13 103 from by rw [← ea_15]; rfl).trans ((show a_13 103 = a_12 103 from by rw [← ea_13]; rfl).trans (show a_12 103 = a_11 103 from by rw [← ea_12]; rfl))))) i).trans ((cp_z (n := 6) (show a_11 103 = _ from by rw [← ea_11]; rfl) (by decide +kernel) (by decide +kernel) (by decide +kernel) i hi).trans (congrFun ((show a_10 9 = a_9 9 from by rw [← ea_10]; rfl).trans ((show a_9 9 = a_7 9 from by rw [← ea_9]; rfl).trans ((show a_7 9 = a_6 9 from by rw [← ea_7]; rfl).trans ((show a_6 9 = a_5 9 from by rw [← ea_6]; rfl).trans ((show a_5 9 = a_4 9 from by rw [← ea_5]; rfl).trans ((show a_4 9 = a_3 9 from by rw [← ea_4]; rfl).trans (show a_3 9 = a 9 from by rw [← ea_3]; rfl))))))) i))) (fun i hi => (congrFun ((show a_17 104 = a_16 104 from by rw [← ea_17]; rfl).trans ((show a_16 104 = a_15 104 from by rw [← ea_16]; rfl).trans ((show a_15 104 = a_13 104 from by rw [← ea_15]; rfl).trans (show a_13 104 = a_12 104 from by rw [← ea_13]; rfl)))) i).trans ((cp_z (n := 6) (show a_12 104 = _ from by rw [← ea_12]; rfl) (by decide +kernel) (by decide +kernel) (by decide +kernel) i hi).trans (congrFun ((show a_11 10 = a_10 10 from by rw [← ea_11]; rfl).trans ((show a_10 10 = a_9 10 from by rw [← ea_10]; rfl).trans ((show a_9 10 = a_7 10 from by rw [← ea_9]; rfl).trans ((show a_7 10 = a_6 10 from by rw [← ea_7]; rfl).trans ((show a_6 10 = a_5 10 from by rw [← ea_6]; rfl).trans ((show a_5 10 = a_4 10 from by rw [← ea_5]; rfl).trans ((show a_4 10 = a_3 10 from by rw [← ea_4]; rfl).trans (show a_3 10 = a 10 from by rw [← ea_3]; rfl)))))))) i))) (fun i hi => (congrFun ((show a_17 105 = a_16 105 from by rw [← ea_17]; rfl).trans ((show a_16 105 = a_15 105 from by rw [← ea_16]; rfl).trans (show a_15 105 = a_13 105 from by rw [← ea_15]; rfl))) i).trans ((cp_z (n := 4) (show a_13 105 = _ from by rw [← ea_13]; rfl) (by decide +kernel) (by decide +kernel) (by decide +kernel) i hi).trans (congrFun ((show a_12 11 = a_11 11 from by rw [← ea_12]; rfl).trans ((show a_11 11 = a_10 11 from by rw [← ea_11]; rfl).trans ((show a_10 11 = a_9 11 from by rw [← ea_10]; rfl).trans ((show a_9 11 = a_7 11 from by rw [← ea_9]; rfl).trans ((show a_7 11 = a_6 11 from by rw [← ea_7]; rfl).trans ((show a_6 11 = a_5 11 from by rw [← ea_6]; rfl).trans ((show a_5 11 = a_4 11 from by rw [← ea_5]; rfl).trans ((show a_4 11 = a_3 11 from by rw [← ea_4]; rfl).trans (show a_3 11 = a 11 from by rw [← ea_3]; rfl))))))))) i))) (fun i hi => (congrFun ((show a_17 106 = a_16 106 from by rw [← ea_17]; rfl).trans (show a_16 106 = a_15 106 from by rw [← ea_16]; rfl)) i).trans ((cp_z (n := 8) (show a_15 106 = _ from by rw [← ea_15]; rfl) (by decide +kernel) (by decide +kernel) (by decide +kernel) i hi).trans (congrFun ((show a_13 12 = a_12 12 from by rw [← ea_13]; rfl).trans ((show a_12 12 = a_11 12 from by rw [← ea_12]; rfl).trans ((show a_11 12 = a_10 12 from by rw [← ea_11]; rfl).trans ((show a_10 12 = a_9 12 from by rw [← ea_10]; rfl).trans ((show a_9 12 = a_7 12 from by rw [← ea_9]; rfl).trans ((show a_7 12 = a_6 12 from by rw [← ea_7]; rfl).trans ((show a_6 12 = a_5 12 from by rw [← ea_6]; rfl).trans ((show a_5 12 = a_4 12 from by rw [← ea_5]; rfl).trans ((show a_4 12 = a_3 12 from by rw [← ea_4]; rfl).trans (show a_3 12 = a 12 from by rw [← ea_3]; rfl)))))))))) i))) (fun i hi => (congrFun (show a_17 107 = a_16 107 from by rw [← ea_17]; rfl) i).trans ((cp_z (n := 8) (show a_16 107 = _ from by rw [← ea_16]; rfl) (by decide +kernel) (by decide +kernel) (by decide +kernel) i hi).trans (congrFun ((show a_15 13 = a_13 13 from by rw [← ea_15]; rfl).trans ((show a_13 13 = a_12 13 from by rw [← ea_13]; rfl).trans ((show a_12 13 = a_11 13 from by rw [← ea_12]; rfl).trans ((show a_11 13 = a_10 13 from by rw [← ea_11]; rfl).trans ((show a_10 13 = a_9 13 from by rw [← ea_10]; rfl).trans ((show a_9 13 = a_7 13 from by rw [← ea_9]; rfl).trans ((show a_7 13 = a_6 13 from by rw [← ea_7]; rfl).trans ((show a_6 13 = a_5 13 from by rw [← ea_6]; rfl).trans ((show a_5 13 = a_4 13 from by rw [← ea_5]; rfl).trans ((show a_4 13 = a_3 13 from by rw [← ea_4]; rfl).trans (show a_3 13 = a 13 from by rw [← ea_3]; rfl))))))))))) i))) (fun i hi => (congrFun rfl i).trans ((cp_z (n := 8) (show a_17 108 = _ from by rw [← ea_17]; rfl) (by decide +kernel) (by decide +kernel) (by decide +kernel) i hi).trans (congrFun ((show a_16 14 = a_15 14 from by rw [← ea_16]; rfl).trans ((show a_15 14 = a_13 14 from by rw [← ea_15]; rfl).trans ((show a_13 14 = a_12 14 from by rw [← ea_13]; rfl).trans ((show a_12 14 = a_11 14 from by rw [← ea_12]; rfl).trans ((show a_11 14 = a_10 14 from by rw [← ea_11]; rfl).trans ((show a_10 14 = a_9 14 from by rw [← ea_10]; rfl).trans ((show a_9 14 = a_7 14 from by rw [← ea_9]; rfl).trans ((show a_7 14 = a_6 14 from by rw [← ea_7]; rfl).trans ((show a_6 14 = a_5 14 from by rw [← ea_6]; rfl).trans ((show a_5 14 = a_4 14 from by rw [← ea_5]; rfl).trans ((show a_4 14 = a_3 14 from by rw [← ea_4]; rfl).trans (show a_3 14 = a 14 from by rw [← ea_3]; rfl)))))))))))) i)))), (by have w9 := hvlp20_1; rw [show nn = 6 by have w1 := hvlp20_0; have w2 := (b25).1; have w3 := hvlp20_2; omega] at w9; exact w9)⟩
      · have h28 := (kc_nle c23)
        have b29 : kb 0 y18 5 := kr_lt1 h28 b22 kc_6 (by decide)
        refine lv_aload_n hx hb dX7_copyFrom_226 rfl (lv_at hl 1 rfl) ?_
        refine va_get (D := D) (ci := 7) (v := .ref (r 109)) (C := RX7) (T := TX7) (N := 20) hx hb hg inC7 hown hK hP 95 rfl rfl 16 (by decide) (hg _ wt1_147) (fun _ h9 => h9) rfl dX7_copyFrom_227 ?_
        refine lv_iload_n hx hb dX7_copyFrom_230 rfl (lv_at hl 0 rfl) ?_
        refine lv_aload_n hx hb dX7_copyFrom_231 rfl (lv_at hl 2 rfl) ?_
        refine va_get (D := D) (ci := 7) (v := .ref (r 15)) (C := RX7) (T := TX7) (N := 20) hx hb hg inC7 hown hK hP 1 rfl rfl 16 (by decide) (hg _ wt1_147) (fun _ h9 => h9) rfl dX7_copyFrom_232 ?_
        refine lv_iload_n hx hb dX7_copyFrom_235 rfl (lv_at hl 0 rfl) ?_
        refine va_aldq hx hb hK hP 15 5 rfl rfl (kb_in b29 (by decide) (by decide)) dX7_copyFrom_236 ?_
        rcases hG 15 (y18.toNatClampNeg) (by decide) with hn31 | hn31
        · refine k_topn hn31 ?_
          refine va_astqN hx hb hK hP hD hS 109 5 rfl rfl (kb_in b29 (by decide) (by decide)) dX7_copyFrom_237 (fun H locs hP hD hS => ?_)
          have hP : va_P D vwCl (xX K r f_14 a_17 (G19.1, va_up G19.2 109 (va_up (G19.2 109) y18.toNatClampNeg none)) (sI K r f_14 a_17 (G19.1, va_up G19.2 109 (va_up (G19.2 109) y18.toNatClampNeg none)) ++ tx)) H := hP
          have hD : va_D A (xX K r f_14 a_17 (G19.1, va_up G19.2 109 (va_up (G19.2 109) y18.toNatClampNeg none)) (sI K r f_14 a_17 (G19.1, va_up G19.2 109 (va_up (G19.2 109) y18.toNatClampNeg none)) ++ tx)) := hD
          refine k_gen (P := fun z => va_P D vwCl (xX K r f_14 a_17 z (sI K r f_14 a_17 z ++ tx)) H ∧ va_D A (xX K r f_14 a_17 z (sI K r f_14 a_17 z ++ tx)) ∧ (xI f_14 a_17) ∧ (gOK K z.2 tt) ∧ (xEk ([3040, 3046, 3052, 3057, 3058], [96, 97, 98, 99, 100, 101, 102, 103, 104, 105, 106, 107, 108], [109]) f a g f_14 a_17 z)) ((G19.1, va_up G19.2 109 (va_up (G19.2 109) y18.toNatClampNeg none))) ⟨hP, hD, hI, (gOK_n hG _ _ _ (Or.inl rfl)), (xEk_q hE rfl)⟩ (fun g_32 eg_32 hq => ?_)
          obtain ⟨hP, hD, hI, hG, hE⟩ := hq
          obtain ⟨t33, et33⟩ : ∃ z : Int32, z = y18 + Int32.ofInt 1 := ⟨_, rfl⟩
          have qt33 : t33.toInt = y18.toInt + 1 := by rw [et33]; exact km_inc b29 (by decide) (by decide)
          have b34 : kb 1 t33 6 := kb_inc (k := 1) qt33 b29
          refine lv_iinc (v := t33) (lv' := [(2, .int t33), (0, .ref (r 95)), (1, .ref (r 1))]) hx hb dX7_copyFrom_238 hl (k := 0) rfl et33.symm (by decide) rfl (fun ls hl => ?_)
          refine lv_goto (tgt := 220) hx hb dX7_copyFrom_241 (by decide) ?_
          exact ihlp20 (nn + 1) g_32 _ _ _ t33 (km_up hmlp20 qt33) hI hG hE (kb_w b34 (by decide) (by decide)) (by have w1 := hvlp20_0; have w2 := qt33; omega) (rf_s (ix := y18.toNatClampNeg) hvlp20_1 (fun i => by rw [← eg_32]; rfl) (cl_nat hvlp20_0) (by rw [← congrFun (show G19.2 15 = g.2 15 from hE9.2.2 15 rfl) nn, ← cl_nat hvlp20_0]; exact hn31.symm)) (by have w1 := hvlp20_0; have w2 := (b29).2; omega) hP hD hS (lv_sub hl [0, 1, 2] rfl)
        · obtain ⟨t30, ht30, hn31⟩ := hn31
          refine k_tops hn31 ?_
          obtain ⟨jt30_0, hjt30_0⟩ := tIn_at (tIn_w hT ht30) (k := 0) rfl
          obtain ⟨jt30_1, hjt30_1⟩ := tIn_at (tIn_w hT ht30) (k := 1) rfl
          obtain ⟨jt30_2, hjt30_2⟩ := tIn_at (tIn_w hT ht30) (k := 2) rfl
          obtain ⟨jt30_3, hjt30_3⟩ := tIn_at (tIn_w hT ht30) (k := 3) rfl
          obtain ⟨jt30_4, hjt30_4⟩ := tIn_at (tIn_w hT ht30) (k := 4) rfl
          have hnt30 : (nI t30.2.2.2).toInt = (t30.2.2.2 : Int) := kn_to (by have w1 := ht30.1; omega)
          refine va_astq hx hb hK hP hD hS 109 5 (jt30_0 + 116) 10 rfl rfl hjt30_0 rfl (kb_in b29 (by decide) (by decide)) dX7_copyFrom_237 (fun H locs hP hD hS => ?_)
          have hP : va_P D vwCl (xX K r f_14 a_17 (G19.1, va_up G19.2 109 (va_up (G19.2 109) y18.toNatClampNeg (some (t30.1 0)))) (sI K r f_14 a_17 (G19.1, va_up G19.2 109 (va_up (G19.2 109) y18.toNatClampNeg (some (t30.1 0)))) ++ tx)) H := hP
          have hD : va_D A (xX K r f_14 a_17 (G19.1, va_up G19.2 109 (va_up (G19.2 109) y18.toNatClampNeg (some (t30.1 0)))) (sI K r f_14 a_17 (G19.1, va_up G19.2 109 (va_up (G19.2 109) y18.toNatClampNeg (some (t30.1 0)))) ++ tx)) := hD
          refine k_gen (P := fun z => va_P D vwCl (xX K r f_14 a_17 z (sI K r f_14 a_17 z ++ tx)) H ∧ va_D A (xX K r f_14 a_17 z (sI K r f_14 a_17 z ++ tx)) ∧ (xI f_14 a_17) ∧ (gOK K z.2 tt) ∧ (xEk ([3040, 3046, 3052, 3057, 3058], [96, 97, 98, 99, 100, 101, 102, 103, 104, 105, 106, 107, 108], [109]) f a g f_14 a_17 z)) ((G19.1, va_up G19.2 109 (va_up (G19.2 109) y18.toNatClampNeg (some (t30.1 0))))) ⟨hP, hD, hI, (gOK_n hG _ _ _ (Or.inr ⟨_, ht30, rfl⟩)), (xEk_q hE rfl)⟩ (fun g_35 eg_35 hq => ?_)
          obtain ⟨hP, hD, hI, hG, hE⟩ := hq
          obtain ⟨t36, et36⟩ : ∃ z : Int32, z = y18 + Int32.ofInt 1 := ⟨_, rfl⟩
          have qt36 : t36.toInt = y18.toInt + 1 := by rw [et36]; exact km_inc b29 (by decide) (by decide)
          have b37 : kb 1 t36 6 := kb_inc (k := 1) qt36 b29
          refine lv_iinc (v := t36) (lv' := [(2, .int t36), (0, .ref (r 95)), (1, .ref (r 1))]) hx hb dX7_copyFrom_238 hl (k := 0) rfl et36.symm (by decide) rfl (fun ls hl => ?_)
          refine lv_goto (tgt := 220) hx hb dX7_copyFrom_241 (by decide) ?_
          exact ihlp20 (nn + 1) g_35 _ _ _ t36 (km_up hmlp20 qt36) hI hG hE (kb_w b37 (by decide) (by decide)) (by have w1 := hvlp20_0; have w2 := qt36; omega) (rf_s (ix := y18.toNatClampNeg) hvlp20_1 (fun i => by rw [← eg_35]; rfl) (cl_nat hvlp20_0) (by rw [← congrFun (show G19.2 15 = g.2 15 from hE9.2.2 15 rfl) nn, ← cl_nat hvlp20_0]; exact hn31.symm)) (by have w1 := hvlp20_0; have w2 := (b29).2; omega) hP hD hS (lv_sub hl [0, 1, 2] rfl)
  exact lp20 (7) 0 g _ _ _ 0 (by have h1 := (kc_0); unfold kb at h1; omega) hI hG hE (kb_w kc_0 (by decide) (by decide)) (by decide +kernel) (fun i h => absurd h (Nat.not_lt_zero i)) (Nat.zero_le _) hP hD hS (lv_sub hl [0, 1, 2] rfl)
set_option maxHeartbeats 4000000 in
set_option maxRecDepth 100000 in
theorem z_copyFromB  (l : Launch) {D : va_G} {K : Nat → ClassId} (r : Nat → Nat) (f : Nat → Int32) (a : Nat → Nat → Int32) (g : xG) (tx tt : va_W) (hT : ∀ c ∈ tt, c ∈ tx) (hI : xI f a) (hG : gOK K g.2 tt)   (k : Nat → Int32) (hVw : sV 3040 96 f a k) (hkk : kK k)   : kVG l yX7_copyFrom (Cond.code yX7_copyFrom cX7_copyFrom 3 none :: kG) (rmD 2 0 0) D K [.ref (r 1), .ref (r 95)] (xX K r f a g (sI K r f a g ++ tx)) (fun (u : xS) => xI u.1 u.2.1 ∧ gOK K u.2.2.2 tt ∧ xEk ([32, 38, 44, 49, 50], [2, 3, 4, 5, 6, 7, 8, 9, 10, 11, 12, 13, 14], [15]) f a g u.1 u.2.1 u.2.2 ∧ sV 32 2 u.1 u.2.1 k ∧ (∀ i, i < 6 → u.2.2.2 15 i = g.2 109 i)) (fun u => xX K r u.1 u.2.1 u.2.2 (sI K r u.1 u.2.1 u.2.2 ++ tx)) 0 0 := by
  refine kVG.of (cc := cX7_copyFrom) (maxL := 3) (ret := none) (by decide) rfl (Nat.le_of_ble_eq_true rfl) ?_
  intro p e s m below meth c A hx hb hr hml hown hts hlocks hnm hK hP hD hS hA hV ls hl
  have hE : xEk ([32, 38, 44, 49, 50], [2, 3, 4, 5, 6, 7, 8, 9, 10, 11, 12, 13, 14], [15]) f a g f a g := xEk_rf
  have hg : ∀ w ∈ kG, w.before _ s = true := fun w h => hts w (List.mem_cons_of_mem _ h)
  have hown : s.vm.findClass RX7 = some m.cls := hown
  have hl : lv_has ls 3 [(0, .ref (r 1)), (1, .ref (r 95))] := hl
  obtain ⟨s3040, es3040⟩ : ∃ z : Int32, z = f 3040 := ⟨_, rfl⟩
  have b1 : kb 0 s3040 10 := kb_eq es3040 (fI_at hI.1 3040 (by decide) (by decide))
  obtain ⟨s3046, es3046⟩ : ∃ z : Int32, z = f 3046 := ⟨_, rfl⟩
  obtain ⟨s3052, es3052⟩ : ∃ z : Int32, z = f 3052 := ⟨_, rfl⟩
  obtain ⟨s3057, es3057⟩ : ∃ z : Int32, z = f 3057 := ⟨_, rfl⟩
  obtain ⟨s3058, es3058⟩ : ∃ z : Int32, z = f 3058 := ⟨_, rfl⟩
  refine lv_aload_n hx hb dX7_copyFrom_0 rfl (lv_at hl 0 rfl) ?_
  refine lv_aload_n hx hb dX7_copyFrom_1 rfl (lv_at hl 1 rfl) ?_
  refine va_get (D := D) (ci := 7) (v := .int (f 3040)) (C := RX7) (T := TX7) (N := 20) hx hb hg inC7 hown hK hP 95 rfl rfl 0 (by decide) (hg _ wt1_79) (fun _ h9 => h9) rfl dX7_copyFrom_2 ?_
  refine k_top (z := s3040) es3040.symm ?_
  refine va_put (D := D) (ci := 7) (v := .int s3040) (ty := .int) (C := RX7) (T := TX7) (N := 20) hx hb hg inC7 tyX7 tyX7_ok nmX7 hown hK hP hD hS 1 rfl rfl 0 (by decide) (hg _ wt1_79) (fun _ h9 => h9) rfl (by decide +kernel) rfl rfl (Nat.le_of_ble_eq_true rfl) dX7_copyFrom_5 (fun H locs hP hD hS => ?_)
  have hP : va_P D vwCl (xX K r (upd f 32 s3040) a g (sI K r (upd f 32 s3040) a g ++ tx)) H := hP
  have hD : va_D A (xX K r (upd f 32 s3040) a g (sI K r (upd f 32 s3040) a g ++ tx)) := hD
  refine k_gen (P := fun z => va_P D vwCl (xX K r z a g (sI K r z a g ++ tx)) H ∧ va_D A (xX K r z a g (sI K r z a g ++ tx)) ∧ (xI z a) ∧ (gOK K g.2 tt) ∧ (xEk ([32, 38, 44, 49, 50], [2, 3, 4, 5, 6, 7, 8, 9, 10, 11, 12, 13, 14], [15]) f a g z a g)) (upd f 32 s3040) ⟨hP, hD, (xI_f hI (fI_st hI.1 32 b1 (by decide) (by decide))), hG, (xEk_f hE rfl)⟩ (fun f_2 ef_2 hq => ?_)
  obtain ⟨hP, hD, hI, hG, hE⟩ := hq
  refine lv_aload_n hx hb dX7_copyFrom_8 rfl (lv_at hl 1 rfl) ?_
  refine va_get (D := D) (ci := 7) (v := .ref (r 96)) (C := RX7) (T := TX7) (N := 20) hx hb hg inC7 hown hK hP 95 rfl rfl 1 (by decide) (hg _ wt1_86) (fun _ h9 => h9) rfl dX7_copyFrom_9 ?_
  refine lv_iconst (v := 0) hx hb dX7_copyFrom_12 (by decide) ?_
  refine lv_aload_n hx hb dX7_copyFrom_13 rfl (lv_at hl 0 rfl) ?_
  refine va_get (D := D) (ci := 7) (v := .ref (r 2)) (C := RX7) (T := TX7) (N := 20) hx hb hg inC7 hown hK hP 1 rfl rfl 1 (by decide) (hg _ wt1_86) (fun _ h9 => h9) rfl dX7_copyFrom_14 ?_
  refine lv_iconst (v := 0) hx hb dX7_copyFrom_17 (by decide) ?_
  refine lv_bipush (v := 10) hx hb dX7_copyFrom_18 (by decide) ?_
  refine va_copyi (ty := .int) hx hb (hml.trans hl.1.symm) hown (hg _ wt4_83) (hg _ wt4_70) (hg _ wt4_69) (hg _ wt1_20) hK hP hD hS 96 2 0 0 rfl rfl rfl rfl rfl (by decide) (by decide) (by decide) (by decide +kernel) (by decide +kernel) (fun i _ => rfl) (by decide) (Nat.le_of_ble_eq_true rfl) dX7_copyFrom_20 (fun H locs hP hD hS => ?_)
  have hP : va_P D vwCl (xX K r f_2 (va_up a 2 (va_cpy (a 96) (a 2) (0 : Int32).toNatClampNeg (0 : Int32).toNatClampNeg (10 : Int32).toNatClampNeg)) g (sI K r f_2 (va_up a 2 (va_cpy (a 96) (a 2) (0 : Int32).toNatClampNeg (0 : Int32).toNatClampNeg (10 : Int32).toNatClampNeg)) g ++ tx)) H := hP
  have hD : va_D A (xX K r f_2 (va_up a 2 (va_cpy (a 96) (a 2) (0 : Int32).toNatClampNeg (0 : Int32).toNatClampNeg (10 : Int32).toNatClampNeg)) g (sI K r f_2 (va_up a 2 (va_cpy (a 96) (a 2) (0 : Int32).toNatClampNeg (0 : Int32).toNatClampNeg (10 : Int32).toNatClampNeg)) g ++ tx)) := hD
  refine k_gen (P := fun z => va_P D vwCl (xX K r f_2 z g (sI K r f_2 z g ++ tx)) H ∧ va_D A (xX K r f_2 z g (sI K r f_2 z g ++ tx)) ∧ (xI f_2 z) ∧ (gOK K g.2 tt) ∧ (xEk ([32, 38, 44, 49, 50], [2, 3, 4, 5, 6, 7, 8, 9, 10, 11, 12, 13, 14], [15]) f a g f_2 z g)) (va_up a 2 (va_cpy (a 96) (a 2) (0 : Int32).toNatClampNeg (0 : Int32).toNatClampNeg (10 : Int32).toNatClampNeg)) ⟨hP, hD, (xI_a hI (by decide)), hG, (xEk_a hE rfl)⟩ (fun a_3 ea_3 hq => ?_)
  obtain ⟨hP, hD, hI, hG, hE⟩ := hq
  refine lv_aload_n hx hb dX7_copyFrom_23 rfl (lv_at hl 1 rfl) ?_
  refine va_get (D := D) (ci := 7) (v := .ref (r 97)) (C := RX7) (T := TX7) (N := 20) hx hb hg inC7 hown hK hP 95 rfl rfl 2 (by decide) (hg _ wt1_89) (fun _ h9 => h9) rfl dX7_copyFrom_24 ?_
  refine lv_iconst (v := 0) hx hb dX7_copyFrom_27 (by decide) ?_
  refine lv_aload_n hx hb dX7_copyFrom_28 rfl (lv_at hl 0 rfl) ?_
  refine va_get (D := D) (ci := 7) (v := .ref (r 3)) (C := RX7) (T := TX7) (N := 20) hx hb hg inC7 hown hK hP 1 rfl rfl 2 (by decide) (hg _ wt1_89) (fun _ h9 => h9) rfl dX7_copyFrom_29 ?_
  refine lv_iconst (v := 0) hx hb dX7_copyFrom_32 (by decide) ?_
  refine lv_bipush (v := 10) hx hb dX7_copyFrom_33 (by decide) ?_
  refine va_copyi (ty := .int) hx hb (hml.trans hl.1.symm) hown (hg _ wt4_83) (hg _ wt4_70) (hg _ wt4_69) (hg _ wt1_20) hK hP hD hS 97 3 0 0 rfl rfl rfl rfl rfl (by decide) (by decide) (by decide) (by decide +kernel) (by decide +kernel) (fun i _ => rfl) (by decide) (Nat.le_of_ble_eq_true rfl) dX7_copyFrom_35 (fun H locs hP hD hS => ?_)
  have hP : va_P D vwCl (xX K r f_2 (va_up a_3 3 (va_cpy (a_3 97) (a_3 3) (0 : Int32).toNatClampNeg (0 : Int32).toNatClampNeg (10 : Int32).toNatClampNeg)) g (sI K r f_2 (va_up a_3 3 (va_cpy (a_3 97) (a_3 3) (0 : Int32).toNatClampNeg (0 : Int32).toNatClampNeg (10 : Int32).toNatClampNeg)) g ++ tx)) H := hP
  have hD : va_D A (xX K r f_2 (va_up a_3 3 (va_cpy (a_3 97) (a_3 3) (0 : Int32).toNatClampNeg (0 : Int32).toNatClampNeg (10 : Int32).toNatClampNeg)) g (sI K r f_2 (va_up a_3 3 (va_cpy (a_3 97) (a_3 3) (0 : Int32).toNatClampNeg (0 : Int32).toNatClampNeg (10 : Int32).toNatClampNeg)) g ++ tx)) := hD
  refine k_gen (P := fun z => va_P D vwCl (xX K r f_2 z g (sI K r f_2 z g ++ tx)) H ∧ va_D A (xX K r f_2 z g (sI K r f_2 z g ++ tx)) ∧ (xI f_2 z) ∧ (gOK K g.2 tt) ∧ (xEk ([32, 38, 44, 49, 50], [2, 3, 4, 5, 6, 7, 8, 9, 10, 11, 12, 13, 14], [15]) f a g f_2 z g)) (va_up a_3 3 (va_cpy (a_3 97) (a_3 3) (0 : Int32).toNatClampNeg (0 : Int32).toNatClampNeg (10 : Int32).toNatClampNeg)) ⟨hP, hD, (xI_a hI (by decide)), hG, (xEk_a hE rfl)⟩ (fun a_4 ea_4 hq => ?_)
  obtain ⟨hP, hD, hI, hG, hE⟩ := hq
  refine lv_aload_n hx hb dX7_copyFrom_38 rfl (lv_at hl 1 rfl) ?_
  refine va_get (D := D) (ci := 7) (v := .ref (r 98)) (C := RX7) (T := TX7) (N := 20) hx hb hg inC7 hown hK hP 95 rfl rfl 3 (by decide) (hg _ wt1_93) (fun _ h9 => h9) rfl dX7_copyFrom_39 ?_
  refine lv_iconst (v := 0) hx hb dX7_copyFrom_42 (by decide) ?_
  refine lv_aload_n hx hb dX7_copyFrom_43 rfl (lv_at hl 0 rfl) ?_
  refine va_get (D := D) (ci := 7) (v := .ref (r 4)) (C := RX7) (T := TX7) (N := 20) hx hb hg inC7 hown hK hP 1 rfl rfl 3 (by decide) (hg _ wt1_93) (fun _ h9 => h9) rfl dX7_copyFrom_44 ?_
  refine lv_iconst (v := 0) hx hb dX7_copyFrom_47 (by decide) ?_
  refine lv_bipush (v := 10) hx hb dX7_copyFrom_48 (by decide) ?_
  refine va_copyi (ty := .int) hx hb (hml.trans hl.1.symm) hown (hg _ wt4_83) (hg _ wt4_70) (hg _ wt4_69) (hg _ wt1_20) hK hP hD hS 98 4 0 0 rfl rfl rfl rfl rfl (by decide) (by decide) (by decide) (by decide +kernel) (by decide +kernel) (fun i _ => rfl) (by decide) (Nat.le_of_ble_eq_true rfl) dX7_copyFrom_50 (fun H locs hP hD hS => ?_)
  have hP : va_P D vwCl (xX K r f_2 (va_up a_4 4 (va_cpy (a_4 98) (a_4 4) (0 : Int32).toNatClampNeg (0 : Int32).toNatClampNeg (10 : Int32).toNatClampNeg)) g (sI K r f_2 (va_up a_4 4 (va_cpy (a_4 98) (a_4 4) (0 : Int32).toNatClampNeg (0 : Int32).toNatClampNeg (10 : Int32).toNatClampNeg)) g ++ tx)) H := hP
  have hD : va_D A (xX K r f_2 (va_up a_4 4 (va_cpy (a_4 98) (a_4 4) (0 : Int32).toNatClampNeg (0 : Int32).toNatClampNeg (10 : Int32).toNatClampNeg)) g (sI K r f_2 (va_up a_4 4 (va_cpy (a_4 98) (a_4 4) (0 : Int32).toNatClampNeg (0 : Int32).toNatClampNeg (10 : Int32).toNatClampNeg)) g ++ tx)) := hD
  refine k_gen (P := fun z => va_P D vwCl (xX K r f_2 z g (sI K r f_2 z g ++ tx)) H ∧ va_D A (xX K r f_2 z g (sI K r f_2 z g ++ tx)) ∧ (xI f_2 z) ∧ (gOK K g.2 tt) ∧ (xEk ([32, 38, 44, 49, 50], [2, 3, 4, 5, 6, 7, 8, 9, 10, 11, 12, 13, 14], [15]) f a g f_2 z g)) (va_up a_4 4 (va_cpy (a_4 98) (a_4 4) (0 : Int32).toNatClampNeg (0 : Int32).toNatClampNeg (10 : Int32).toNatClampNeg)) ⟨hP, hD, (xI_a hI (by decide)), hG, (xEk_a hE rfl)⟩ (fun a_5 ea_5 hq => ?_)
  obtain ⟨hP, hD, hI, hG, hE⟩ := hq
  refine lv_aload_n hx hb dX7_copyFrom_53 rfl (lv_at hl 1 rfl) ?_
  refine va_get (D := D) (ci := 7) (v := .ref (r 99)) (C := RX7) (T := TX7) (N := 20) hx hb hg inC7 hown hK hP 95 rfl rfl 4 (by decide) (hg _ wt1_95) (fun _ h9 => h9) rfl dX7_copyFrom_54 ?_
  refine lv_iconst (v := 0) hx hb dX7_copyFrom_57 (by decide) ?_
  refine lv_aload_n hx hb dX7_copyFrom_58 rfl (lv_at hl 0 rfl) ?_
  refine va_get (D := D) (ci := 7) (v := .ref (r 5)) (C := RX7) (T := TX7) (N := 20) hx hb hg inC7 hown hK hP 1 rfl rfl 4 (by decide) (hg _ wt1_95) (fun _ h9 => h9) rfl dX7_copyFrom_59 ?_
  refine lv_iconst (v := 0) hx hb dX7_copyFrom_62 (by decide) ?_
  refine lv_bipush (v := 10) hx hb dX7_copyFrom_63 (by decide) ?_
  refine va_copyi (ty := .int) hx hb (hml.trans hl.1.symm) hown (hg _ wt4_83) (hg _ wt4_70) (hg _ wt4_69) (hg _ wt1_20) hK hP hD hS 99 5 0 0 rfl rfl rfl rfl rfl (by decide) (by decide) (by decide) (by decide +kernel) (by decide +kernel) (fun i _ => rfl) (by decide) (Nat.le_of_ble_eq_true rfl) dX7_copyFrom_65 (fun H locs hP hD hS => ?_)
  have hP : va_P D vwCl (xX K r f_2 (va_up a_5 5 (va_cpy (a_5 99) (a_5 5) (0 : Int32).toNatClampNeg (0 : Int32).toNatClampNeg (10 : Int32).toNatClampNeg)) g (sI K r f_2 (va_up a_5 5 (va_cpy (a_5 99) (a_5 5) (0 : Int32).toNatClampNeg (0 : Int32).toNatClampNeg (10 : Int32).toNatClampNeg)) g ++ tx)) H := hP
  have hD : va_D A (xX K r f_2 (va_up a_5 5 (va_cpy (a_5 99) (a_5 5) (0 : Int32).toNatClampNeg (0 : Int32).toNatClampNeg (10 : Int32).toNatClampNeg)) g (sI K r f_2 (va_up a_5 5 (va_cpy (a_5 99) (a_5 5) (0 : Int32).toNatClampNeg (0 : Int32).toNatClampNeg (10 : Int32).toNatClampNeg)) g ++ tx)) := hD
  refine k_gen (P := fun z => va_P D vwCl (xX K r f_2 z g (sI K r f_2 z g ++ tx)) H ∧ va_D A (xX K r f_2 z g (sI K r f_2 z g ++ tx)) ∧ (xI f_2 z) ∧ (gOK K g.2 tt) ∧ (xEk ([32, 38, 44, 49, 50], [2, 3, 4, 5, 6, 7, 8, 9, 10, 11, 12, 13, 14], [15]) f a g f_2 z g)) (va_up a_5 5 (va_cpy (a_5 99) (a_5 5) (0 : Int32).toNatClampNeg (0 : Int32).toNatClampNeg (10 : Int32).toNatClampNeg)) ⟨hP, hD, (xI_a hI (by decide)), hG, (xEk_a hE rfl)⟩ (fun a_6 ea_6 hq => ?_)
  obtain ⟨hP, hD, hI, hG, hE⟩ := hq
  refine lv_aload_n hx hb dX7_copyFrom_68 rfl (lv_at hl 1 rfl) ?_
  refine va_get (D := D) (ci := 7) (v := .ref (r 100)) (C := RX7) (T := TX7) (N := 20) hx hb hg inC7 hown hK hP 95 rfl rfl 5 (by decide) (hg _ wt1_97) (fun _ h9 => h9) rfl dX7_copyFrom_69 ?_
  refine lv_iconst (v := 0) hx hb dX7_copyFrom_72 (by decide) ?_
  refine lv_aload_n hx hb dX7_copyFrom_73 rfl (lv_at hl 0 rfl) ?_
  refine va_get (D := D) (ci := 7) (v := .ref (r 6)) (C := RX7) (T := TX7) (N := 20) hx hb hg inC7 hown hK hP 1 rfl rfl 5 (by decide) (hg _ wt1_97) (fun _ h9 => h9) rfl dX7_copyFrom_74 ?_
  refine lv_iconst (v := 0) hx hb dX7_copyFrom_77 (by decide) ?_
  refine lv_bipush (v := 10) hx hb dX7_copyFrom_78 (by decide) ?_
  refine va_copyi (ty := .int) hx hb (hml.trans hl.1.symm) hown (hg _ wt4_83) (hg _ wt4_70) (hg _ wt4_69) (hg _ wt1_20) hK hP hD hS 100 6 0 0 rfl rfl rfl rfl rfl (by decide) (by decide) (by decide) (by decide +kernel) (by decide +kernel) (fun i _ => rfl) (by decide) (Nat.le_of_ble_eq_true rfl) dX7_copyFrom_80 (fun H locs hP hD hS => ?_)
  have hP : va_P D vwCl (xX K r f_2 (va_up a_6 6 (va_cpy (a_6 100) (a_6 6) (0 : Int32).toNatClampNeg (0 : Int32).toNatClampNeg (10 : Int32).toNatClampNeg)) g (sI K r f_2 (va_up a_6 6 (va_cpy (a_6 100) (a_6 6) (0 : Int32).toNatClampNeg (0 : Int32).toNatClampNeg (10 : Int32).toNatClampNeg)) g ++ tx)) H := hP
  have hD : va_D A (xX K r f_2 (va_up a_6 6 (va_cpy (a_6 100) (a_6 6) (0 : Int32).toNatClampNeg (0 : Int32).toNatClampNeg (10 : Int32).toNatClampNeg)) g (sI K r f_2 (va_up a_6 6 (va_cpy (a_6 100) (a_6 6) (0 : Int32).toNatClampNeg (0 : Int32).toNatClampNeg (10 : Int32).toNatClampNeg)) g ++ tx)) := hD
  refine k_gen (P := fun z => va_P D vwCl (xX K r f_2 z g (sI K r f_2 z g ++ tx)) H ∧ va_D A (xX K r f_2 z g (sI K r f_2 z g ++ tx)) ∧ (xI f_2 z) ∧ (gOK K g.2 tt) ∧ (xEk ([32, 38, 44, 49, 50], [2, 3, 4, 5, 6, 7, 8, 9, 10, 11, 12, 13, 14], [15]) f a g f_2 z g)) (va_up a_6 6 (va_cpy (a_6 100) (a_6 6) (0 : Int32).toNatClampNeg (0 : Int32).toNatClampNeg (10 : Int32).toNatClampNeg)) ⟨hP, hD, (xI_a hI (by decide)), hG, (xEk_a hE rfl)⟩ (fun a_7 ea_7 hq => ?_)
  obtain ⟨hP, hD, hI, hG, hE⟩ := hq
  refine lv_aload_n hx hb dX7_copyFrom_83 rfl (lv_at hl 0 rfl) ?_
  refine lv_aload_n hx hb dX7_copyFrom_84 rfl (lv_at hl 1 rfl) ?_
  refine va_get (D := D) (ci := 7) (v := .int (f_2 3046)) (C := RX7) (T := TX7) (N := 20) hx hb hg inC7 hown hK hP 95 rfl rfl 6 (by decide) (hg _ wt1_104) (fun _ h9 => h9) rfl dX7_copyFrom_85 ?_
  refine k_top (z := s3046) ((show f_2 3046 = f 3046 from by rw [← ef_2]; rfl).trans es3046.symm) ?_
  refine va_put (D := D) (ci := 7) (v := .int s3046) (ty := .int) (C := RX7) (T := TX7) (N := 20) hx hb hg inC7 tyX7 tyX7_ok nmX7 hown hK hP hD hS 1 rfl rfl 6 (by decide) (hg _ wt1_104) (fun _ h9 => h9) rfl (by decide +kernel) rfl rfl (Nat.le_of_ble_eq_true rfl) dX7_copyFrom_88 (fun H locs hP hD hS => ?_)
  have hP : va_P D vwCl (xX K r (upd f_2 38 s3046) a_7 g (sI K r (upd f_2 38 s3046) a_7 g ++ tx)) H := hP
  have hD : va_D A (xX K r (upd f_2 38 s3046) a_7 g (sI K r (upd f_2 38 s3046) a_7 g ++ tx)) := hD
  refine k_gen (P := fun z => va_P D vwCl (xX K r z a_7 g (sI K r z a_7 g ++ tx)) H ∧ va_D A (xX K r z a_7 g (sI K r z a_7 g ++ tx)) ∧ (xI z a_7) ∧ (gOK K g.2 tt) ∧ (xEk ([32, 38, 44, 49, 50], [2, 3, 4, 5, 6, 7, 8, 9, 10, 11, 12, 13, 14], [15]) f a g z a_7 g)) (upd f_2 38 s3046) ⟨hP, hD, (xI_f hI (fI_st hI.1 38 (kb_any _) (by decide) (by decide))), hG, (xEk_f hE rfl)⟩ (fun f_8 ef_8 hq => ?_)
  obtain ⟨hP, hD, hI, hG, hE⟩ := hq
  refine lv_aload_n hx hb dX7_copyFrom_91 rfl (lv_at hl 1 rfl) ?_
  refine va_get (D := D) (ci := 7) (v := .ref (r 101)) (C := RX7) (T := TX7) (N := 20) hx hb hg inC7 hown hK hP 95 rfl rfl 7 (by decide) (hg _ wt1_110) (fun _ h9 => h9) rfl dX7_copyFrom_92 ?_
  refine lv_iconst (v := 0) hx hb dX7_copyFrom_95 (by decide) ?_
  refine lv_aload_n hx hb dX7_copyFrom_96 rfl (lv_at hl 0 rfl) ?_
  refine va_get (D := D) (ci := 7) (v := .ref (r 7)) (C := RX7) (T := TX7) (N := 20) hx hb hg inC7 hown hK hP 1 rfl rfl 7 (by decide) (hg _ wt1_110) (fun _ h9 => h9) rfl dX7_copyFrom_97 ?_
  refine lv_iconst (v := 0) hx hb dX7_copyFrom_100 (by decide) ?_
  refine lv_bipush (v := 6) hx hb dX7_copyFrom_101 (by decide) ?_
  refine va_copyi (ty := .int) hx hb (hml.trans hl.1.symm) hown (hg _ wt4_83) (hg _ wt4_70) (hg _ wt4_69) (hg _ wt1_20) hK hP hD hS 101 7 0 0 rfl rfl rfl rfl rfl (by decide) (by decide) (by decide) (by decide +kernel) (by decide +kernel) (fun i _ => rfl) (by decide) (Nat.le_of_ble_eq_true rfl) dX7_copyFrom_103 (fun H locs hP hD hS => ?_)
  have hP : va_P D vwCl (xX K r f_8 (va_up a_7 7 (va_cpy (a_7 101) (a_7 7) (0 : Int32).toNatClampNeg (0 : Int32).toNatClampNeg (6 : Int32).toNatClampNeg)) g (sI K r f_8 (va_up a_7 7 (va_cpy (a_7 101) (a_7 7) (0 : Int32).toNatClampNeg (0 : Int32).toNatClampNeg (6 : Int32).toNatClampNeg)) g ++ tx)) H := hP
  have hD : va_D A (xX K r f_8 (va_up a_7 7 (va_cpy (a_7 101) (a_7 7) (0 : Int32).toNatClampNeg (0 : Int32).toNatClampNeg (6 : Int32).toNatClampNeg)) g (sI K r f_8 (va_up a_7 7 (va_cpy (a_7 101) (a_7 7) (0 : Int32).toNatClampNeg (0 : Int32).toNatClampNeg (6 : Int32).toNatClampNeg)) g ++ tx)) := hD
  refine k_gen (P := fun z => va_P D vwCl (xX K r f_8 z g (sI K r f_8 z g ++ tx)) H ∧ va_D A (xX K r f_8 z g (sI K r f_8 z g ++ tx)) ∧ (xI f_8 z) ∧ (gOK K g.2 tt) ∧ (xEk ([32, 38, 44, 49, 50], [2, 3, 4, 5, 6, 7, 8, 9, 10, 11, 12, 13, 14], [15]) f a g f_8 z g)) (va_up a_7 7 (va_cpy (a_7 101) (a_7 7) (0 : Int32).toNatClampNeg (0 : Int32).toNatClampNeg (6 : Int32).toNatClampNeg)) ⟨hP, hD, (xI_a hI (by decide)), hG, (xEk_a hE rfl)⟩ (fun a_9 ea_9 hq => ?_)
  obtain ⟨hP, hD, hI, hG, hE⟩ := hq
  refine lv_aload_n hx hb dX7_copyFrom_106 rfl (lv_at hl 1 rfl) ?_
  refine va_get (D := D) (ci := 7) (v := .ref (r 102)) (C := RX7) (T := TX7) (N := 20) hx hb hg inC7 hown hK hP 95 rfl rfl 8 (by decide) (hg _ wt1_114) (fun _ h9 => h9) rfl dX7_copyFrom_107 ?_
  refine lv_iconst (v := 0) hx hb dX7_copyFrom_110 (by decide) ?_
  refine lv_aload_n hx hb dX7_copyFrom_111 rfl (lv_at hl 0 rfl) ?_
  refine va_get (D := D) (ci := 7) (v := .ref (r 8)) (C := RX7) (T := TX7) (N := 20) hx hb hg inC7 hown hK hP 1 rfl rfl 8 (by decide) (hg _ wt1_114) (fun _ h9 => h9) rfl dX7_copyFrom_112 ?_
  refine lv_iconst (v := 0) hx hb dX7_copyFrom_115 (by decide) ?_
  refine lv_bipush (v := 6) hx hb dX7_copyFrom_116 (by decide) ?_
  refine va_copyi (ty := .int) hx hb (hml.trans hl.1.symm) hown (hg _ wt4_83) (hg _ wt4_70) (hg _ wt4_69) (hg _ wt1_20) hK hP hD hS 102 8 0 0 rfl rfl rfl rfl rfl (by decide) (by decide) (by decide) (by decide +kernel) (by decide +kernel) (fun i _ => rfl) (by decide) (Nat.le_of_ble_eq_true rfl) dX7_copyFrom_118 (fun H locs hP hD hS => ?_)
  have hP : va_P D vwCl (xX K r f_8 (va_up a_9 8 (va_cpy (a_9 102) (a_9 8) (0 : Int32).toNatClampNeg (0 : Int32).toNatClampNeg (6 : Int32).toNatClampNeg)) g (sI K r f_8 (va_up a_9 8 (va_cpy (a_9 102) (a_9 8) (0 : Int32).toNatClampNeg (0 : Int32).toNatClampNeg (6 : Int32).toNatClampNeg)) g ++ tx)) H := hP
  have hD : va_D A (xX K r f_8 (va_up a_9 8 (va_cpy (a_9 102) (a_9 8) (0 : Int32).toNatClampNeg (0 : Int32).toNatClampNeg (6 : Int32).toNatClampNeg)) g (sI K r f_8 (va_up a_9 8 (va_cpy (a_9 102) (a_9 8) (0 : Int32).toNatClampNeg (0 : Int32).toNatClampNeg (6 : Int32).toNatClampNeg)) g ++ tx)) := hD
  refine k_gen (P := fun z => va_P D vwCl (xX K r f_8 z g (sI K r f_8 z g ++ tx)) H ∧ va_D A (xX K r f_8 z g (sI K r f_8 z g ++ tx)) ∧ (xI f_8 z) ∧ (gOK K g.2 tt) ∧ (xEk ([32, 38, 44, 49, 50], [2, 3, 4, 5, 6, 7, 8, 9, 10, 11, 12, 13, 14], [15]) f a g f_8 z g)) (va_up a_9 8 (va_cpy (a_9 102) (a_9 8) (0 : Int32).toNatClampNeg (0 : Int32).toNatClampNeg (6 : Int32).toNatClampNeg)) ⟨hP, hD, (xI_a hI (by decide)), hG, (xEk_a hE rfl)⟩ (fun a_10 ea_10 hq => ?_)
  obtain ⟨hP, hD, hI, hG, hE⟩ := hq
  refine lv_aload_n hx hb dX7_copyFrom_121 rfl (lv_at hl 1 rfl) ?_
  refine va_get (D := D) (ci := 7) (v := .ref (r 103)) (C := RX7) (T := TX7) (N := 20) hx hb hg inC7 hown hK hP 95 rfl rfl 9 (by decide) (hg _ wt1_116) (fun _ h9 => h9) rfl dX7_copyFrom_122 ?_
  refine lv_iconst (v := 0) hx hb dX7_copyFrom_125 (by decide) ?_
  refine lv_aload_n hx hb dX7_copyFrom_126 rfl (lv_at hl 0 rfl) ?_
  refine va_get (D := D) (ci := 7) (v := .ref (r 9)) (C := RX7) (T := TX7) (N := 20) hx hb hg inC7 hown hK hP 1 rfl rfl 9 (by decide) (hg _ wt1_116) (fun _ h9 => h9) rfl dX7_copyFrom_127 ?_
  refine lv_iconst (v := 0) hx hb dX7_copyFrom_130 (by decide) ?_
  refine lv_bipush (v := 6) hx hb dX7_copyFrom_131 (by decide) ?_
  refine va_copyi (ty := .int) hx hb (hml.trans hl.1.symm) hown (hg _ wt4_83) (hg _ wt4_70) (hg _ wt4_69) (hg _ wt1_20) hK hP hD hS 103 9 0 0 rfl rfl rfl rfl rfl (by decide) (by decide) (by decide) (by decide +kernel) (by decide +kernel) (fun i _ => rfl) (by decide) (Nat.le_of_ble_eq_true rfl) dX7_copyFrom_133 (fun H locs hP hD hS => ?_)
  have hP : va_P D vwCl (xX K r f_8 (va_up a_10 9 (va_cpy (a_10 103) (a_10 9) (0 : Int32).toNatClampNeg (0 : Int32).toNatClampNeg (6 : Int32).toNatClampNeg)) g (sI K r f_8 (va_up a_10 9 (va_cpy (a_10 103) (a_10 9) (0 : Int32).toNatClampNeg (0 : Int32).toNatClampNeg (6 : Int32).toNatClampNeg)) g ++ tx)) H := hP
  have hD : va_D A (xX K r f_8 (va_up a_10 9 (va_cpy (a_10 103) (a_10 9) (0 : Int32).toNatClampNeg (0 : Int32).toNatClampNeg (6 : Int32).toNatClampNeg)) g (sI K r f_8 (va_up a_10 9 (va_cpy (a_10 103) (a_10 9) (0 : Int32).toNatClampNeg (0 : Int32).toNatClampNeg (6 : Int32).toNatClampNeg)) g ++ tx)) := hD
  refine k_gen (P := fun z => va_P D vwCl (xX K r f_8 z g (sI K r f_8 z g ++ tx)) H ∧ va_D A (xX K r f_8 z g (sI K r f_8 z g ++ tx)) ∧ (xI f_8 z) ∧ (gOK K g.2 tt) ∧ (xEk ([32, 38, 44, 49, 50], [2, 3, 4, 5, 6, 7, 8, 9, 10, 11, 12, 13, 14], [15]) f a g f_8 z g)) (va_up a_10 9 (va_cpy (a_10 103) (a_10 9) (0 : Int32).toNatClampNeg (0 : Int32).toNatClampNeg (6 : Int32).toNatClampNeg)) ⟨hP, hD, (xI_a hI (by decide)), hG, (xEk_a hE rfl)⟩ (fun a_11 ea_11 hq => ?_)
  obtain ⟨hP, hD, hI, hG, hE⟩ := hq
  refine lv_aload_n hx hb dX7_copyFrom_136 rfl (lv_at hl 1 rfl) ?_
  refine va_get (D := D) (ci := 7) (v := .ref (r 104)) (C := RX7) (T := TX7) (N := 20) hx hb hg inC7 hown hK hP 95 rfl rfl 10 (by decide) (hg _ wt1_121) (fun _ h9 => h9) rfl dX7_copyFrom_137 ?_
  refine lv_iconst (v := 0) hx hb dX7_copyFrom_140 (by decide) ?_
  refine lv_aload_n hx hb dX7_copyFrom_141 rfl (lv_at hl 0 rfl) ?_
  refine va_get (D := D) (ci := 7) (v := .ref (r 10)) (C := RX7) (T := TX7) (N := 20) hx hb hg inC7 hown hK hP 1 rfl rfl 10 (by decide) (hg _ wt1_121) (fun _ h9 => h9) rfl dX7_copyFrom_142 ?_
  refine lv_iconst (v := 0) hx hb dX7_copyFrom_145 (by decide) ?_
  refine lv_bipush (v := 6) hx hb dX7_copyFrom_146 (by decide) ?_
  refine va_copyi (ty := .int) hx hb (hml.trans hl.1.symm) hown (hg _ wt4_83) (hg _ wt4_70) (hg _ wt4_69) (hg _ wt1_20) hK hP hD hS 104 10 0 0 rfl rfl rfl rfl rfl (by decide) (by decide) (by decide) (by decide +kernel) (by decide +kernel) (fun i _ => rfl) (by decide) (Nat.le_of_ble_eq_true rfl) dX7_copyFrom_148 (fun H locs hP hD hS => ?_)
  have hP : va_P D vwCl (xX K r f_8 (va_up a_11 10 (va_cpy (a_11 104) (a_11 10) (0 : Int32).toNatClampNeg (0 : Int32).toNatClampNeg (6 : Int32).toNatClampNeg)) g (sI K r f_8 (va_up a_11 10 (va_cpy (a_11 104) (a_11 10) (0 : Int32).toNatClampNeg (0 : Int32).toNatClampNeg (6 : Int32).toNatClampNeg)) g ++ tx)) H := hP
  have hD : va_D A (xX K r f_8 (va_up a_11 10 (va_cpy (a_11 104) (a_11 10) (0 : Int32).toNatClampNeg (0 : Int32).toNatClampNeg (6 : Int32).toNatClampNeg)) g (sI K r f_8 (va_up a_11 10 (va_cpy (a_11 104) (a_11 10) (0 : Int32).toNatClampNeg (0 : Int32).toNatClampNeg (6 : Int32).toNatClampNeg)) g ++ tx)) := hD
  refine k_gen (P := fun z => va_P D vwCl (xX K r f_8 z g (sI K r f_8 z g ++ tx)) H ∧ va_D A (xX K r f_8 z g (sI K r f_8 z g ++ tx)) ∧ (xI f_8 z) ∧ (gOK K g.2 tt) ∧ (xEk ([32, 38, 44, 49, 50], [2, 3, 4, 5, 6, 7, 8, 9, 10, 11, 12, 13, 14], [15]) f a g f_8 z g)) (va_up a_11 10 (va_cpy (a_11 104) (a_11 10) (0 : Int32).toNatClampNeg (0 : Int32).toNatClampNeg (6 : Int32).toNatClampNeg)) ⟨hP, hD, (xI_a hI (by decide)), hG, (xEk_a hE rfl)⟩ (fun a_12 ea_12 hq => ?_)
  obtain ⟨hP, hD, hI, hG, hE⟩ := hq
  refine lv_aload_n hx hb dX7_copyFrom_151 rfl (lv_at hl 1 rfl) ?_
  refine va_get (D := D) (ci := 7) (v := .ref (r 105)) (C := RX7) (T := TX7) (N := 20) hx hb hg inC7 hown hK hP 95 rfl rfl 11 (by decide) (hg _ wt1_127) (fun _ h9 => h9) rfl dX7_copyFrom_152 ?_
  refine lv_iconst (v := 0) hx hb dX7_copyFrom_155 (by decide) ?_
  refine lv_aload_n hx hb dX7_copyFrom_156 rfl (lv_at hl 0 rfl) ?_
  refine va_get (D := D) (ci := 7) (v := .ref (r 11)) (C := RX7) (T := TX7) (N := 20) hx hb hg inC7 hown hK hP 1 rfl rfl 11 (by decide) (hg _ wt1_127) (fun _ h9 => h9) rfl dX7_copyFrom_157 ?_
  refine lv_iconst (v := 0) hx hb dX7_copyFrom_160 (by decide) ?_
  refine lv_iconst (v := 4) hx hb dX7_copyFrom_161 (by decide) ?_
  refine va_copyi (ty := .int) hx hb (hml.trans hl.1.symm) hown (hg _ wt4_83) (hg _ wt4_70) (hg _ wt4_69) (hg _ wt1_20) hK hP hD hS 105 11 0 0 rfl rfl rfl rfl rfl (by decide) (by decide) (by decide) (by decide +kernel) (by decide +kernel) (fun i _ => rfl) (by decide) (Nat.le_of_ble_eq_true rfl) dX7_copyFrom_162 (fun H locs hP hD hS => ?_)
  have hP : va_P D vwCl (xX K r f_8 (va_up a_12 11 (va_cpy (a_12 105) (a_12 11) (0 : Int32).toNatClampNeg (0 : Int32).toNatClampNeg (4 : Int32).toNatClampNeg)) g (sI K r f_8 (va_up a_12 11 (va_cpy (a_12 105) (a_12 11) (0 : Int32).toNatClampNeg (0 : Int32).toNatClampNeg (4 : Int32).toNatClampNeg)) g ++ tx)) H := hP
  have hD : va_D A (xX K r f_8 (va_up a_12 11 (va_cpy (a_12 105) (a_12 11) (0 : Int32).toNatClampNeg (0 : Int32).toNatClampNeg (4 : Int32).toNatClampNeg)) g (sI K r f_8 (va_up a_12 11 (va_cpy (a_12 105) (a_12 11) (0 : Int32).toNatClampNeg (0 : Int32).toNatClampNeg (4 : Int32).toNatClampNeg)) g ++ tx)) := hD
  refine k_gen (P := fun z => va_P D vwCl (xX K r f_8 z g (sI K r f_8 z g ++ tx)) H ∧ va_D A (xX K r f_8 z g (sI K r f_8 z g ++ tx)) ∧ (xI f_8 z) ∧ (gOK K g.2 tt) ∧ (xEk ([32, 38, 44, 49, 50], [2, 3, 4, 5, 6, 7, 8, 9, 10, 11, 12, 13, 14], [15]) f a g f_8 z g)) (va_up a_12 11 (va_cpy (a_12 105) (a_12 11) (0 : Int32).toNatClampNeg (0 : Int32).toNatClampNeg (4 : Int32).toNatClampNeg)) ⟨hP, hD, (xI_a hI (by decide)), hG, (xEk_a hE rfl)⟩ (fun a_13 ea_13 hq => ?_)
  obtain ⟨hP, hD, hI, hG, hE⟩ := hq
  refine lv_aload_n hx hb dX7_copyFrom_165 rfl (lv_at hl 0 rfl) ?_
  refine lv_aload_n hx hb dX7_copyFrom_166 rfl (lv_at hl 1 rfl) ?_
  refine va_get (D := D) (ci := 7) (v := .int (f_8 3052)) (C := RX7) (T := TX7) (N := 20) hx hb hg inC7 hown hK hP 95 rfl rfl 12 (by decide) (hg _ wt1_135) (fun _ h9 => h9) rfl dX7_copyFrom_167 ?_
  refine k_top (z := s3052) ((show f_8 3052 = f_2 3052 from by rw [← ef_8]; rfl).trans ((show f_2 3052 = f 3052 from by rw [← ef_2]; rfl).trans es3052.symm)) ?_
  refine va_put (D := D) (ci := 7) (v := .int s3052) (ty := .int) (C := RX7) (T := TX7) (N := 20) hx hb hg inC7 tyX7 tyX7_ok nmX7 hown hK hP hD hS 1 rfl rfl 12 (by decide) (hg _ wt1_135) (fun _ h9 => h9) rfl (by decide +kernel) rfl rfl (Nat.le_of_ble_eq_true rfl) dX7_copyFrom_170 (fun H locs hP hD hS => ?_)
  have hP : va_P D vwCl (xX K r (upd f_8 44 s3052) a_13 g (sI K r (upd f_8 44 s3052) a_13 g ++ tx)) H := hP
  have hD : va_D A (xX K r (upd f_8 44 s3052) a_13 g (sI K r (upd f_8 44 s3052) a_13 g ++ tx)) := hD
  refine k_gen (P := fun z => va_P D vwCl (xX K r z a_13 g (sI K r z a_13 g ++ tx)) H ∧ va_D A (xX K r z a_13 g (sI K r z a_13 g ++ tx)) ∧ (xI z a_13) ∧ (gOK K g.2 tt) ∧ (xEk ([32, 38, 44, 49, 50], [2, 3, 4, 5, 6, 7, 8, 9, 10, 11, 12, 13, 14], [15]) f a g z a_13 g)) (upd f_8 44 s3052) ⟨hP, hD, (xI_f hI (fI_st hI.1 44 (kb_any _) (by decide) (by decide))), hG, (xEk_f hE rfl)⟩ (fun f_14 ef_14 hq => ?_)
  obtain ⟨hP, hD, hI, hG, hE⟩ := hq
  refine lv_aload_n hx hb dX7_copyFrom_173 rfl (lv_at hl 1 rfl) ?_
  refine va_get (D := D) (ci := 7) (v := .ref (r 106)) (C := RX7) (T := TX7) (N := 20) hx hb hg inC7 hown hK hP 95 rfl rfl 13 (by decide) (hg _ wt1_138) (fun _ h9 => h9) rfl dX7_copyFrom_174 ?_
  refine lv_iconst (v := 0) hx hb dX7_copyFrom_177 (by decide) ?_
  refine lv_aload_n hx hb dX7_copyFrom_178 rfl (lv_at hl 0 rfl) ?_
  refine va_get (D := D) (ci := 7) (v := .ref (r 12)) (C := RX7) (T := TX7) (N := 20) hx hb hg inC7 hown hK hP 1 rfl rfl 13 (by decide) (hg _ wt1_138) (fun _ h9 => h9) rfl dX7_copyFrom_179 ?_
  refine lv_iconst (v := 0) hx hb dX7_copyFrom_182 (by decide) ?_
  refine lv_bipush (v := 8) hx hb dX7_copyFrom_183 (by decide) ?_
  refine va_copyi (ty := .int) hx hb (hml.trans hl.1.symm) hown (hg _ wt4_83) (hg _ wt4_70) (hg _ wt4_69) (hg _ wt1_20) hK hP hD hS 106 12 0 0 rfl rfl rfl rfl rfl (by decide) (by decide) (by decide) (by decide +kernel) (by decide +kernel) (fun i _ => rfl) (by decide) (Nat.le_of_ble_eq_true rfl) dX7_copyFrom_185 (fun H locs hP hD hS => ?_)
  have hP : va_P D vwCl (xX K r f_14 (va_up a_13 12 (va_cpy (a_13 106) (a_13 12) (0 : Int32).toNatClampNeg (0 : Int32).toNatClampNeg (8 : Int32).toNatClampNeg)) g (sI K r f_14 (va_up a_13 12 (va_cpy (a_13 106) (a_13 12) (0 : Int32).toNatClampNeg (0 : Int32).toNatClampNeg (8 : Int32).toNatClampNeg)) g ++ tx)) H := hP
  have hD : va_D A (xX K r f_14 (va_up a_13 12 (va_cpy (a_13 106) (a_13 12) (0 : Int32).toNatClampNeg (0 : Int32).toNatClampNeg (8 : Int32).toNatClampNeg)) g (sI K r f_14 (va_up a_13 12 (va_cpy (a_13 106) (a_13 12) (0 : Int32).toNatClampNeg (0 : Int32).toNatClampNeg (8 : Int32).toNatClampNeg)) g ++ tx)) := hD
  refine k_gen (P := fun z => va_P D vwCl (xX K r f_14 z g (sI K r f_14 z g ++ tx)) H ∧ va_D A (xX K r f_14 z g (sI K r f_14 z g ++ tx)) ∧ (xI f_14 z) ∧ (gOK K g.2 tt) ∧ (xEk ([32, 38, 44, 49, 50], [2, 3, 4, 5, 6, 7, 8, 9, 10, 11, 12, 13, 14], [15]) f a g f_14 z g)) (va_up a_13 12 (va_cpy (a_13 106) (a_13 12) (0 : Int32).toNatClampNeg (0 : Int32).toNatClampNeg (8 : Int32).toNatClampNeg)) ⟨hP, hD, (xI_a hI (by decide)), hG, (xEk_a hE rfl)⟩ (fun a_15 ea_15 hq => ?_)
  obtain ⟨hP, hD, hI, hG, hE⟩ := hq
  refine lv_aload_n hx hb dX7_copyFrom_188 rfl (lv_at hl 1 rfl) ?_
  refine va_get (D := D) (ci := 7) (v := .ref (r 107)) (C := RX7) (T := TX7) (N := 20) hx hb hg inC7 hown hK hP 95 rfl rfl 14 (by decide) (hg _ wt1_141) (fun _ h9 => h9) rfl dX7_copyFrom_189 ?_
  refine lv_iconst (v := 0) hx hb dX7_copyFrom_192 (by decide) ?_
  refine lv_aload_n hx hb dX7_copyFrom_193 rfl (lv_at hl 0 rfl) ?_
  refine va_get (D := D) (ci := 7) (v := .ref (r 13)) (C := RX7) (T := TX7) (N := 20) hx hb hg inC7 hown hK hP 1 rfl rfl 14 (by decide) (hg _ wt1_141) (fun _ h9 => h9) rfl dX7_copyFrom_194 ?_
  refine lv_iconst (v := 0) hx hb dX7_copyFrom_197 (by decide) ?_
  refine lv_bipush (v := 8) hx hb dX7_copyFrom_198 (by decide) ?_
  refine va_copyi (ty := .int) hx hb (hml.trans hl.1.symm) hown (hg _ wt4_83) (hg _ wt4_70) (hg _ wt4_69) (hg _ wt1_20) hK hP hD hS 107 13 0 0 rfl rfl rfl rfl rfl (by decide) (by decide) (by decide) (by decide +kernel) (by decide +kernel) (fun i _ => rfl) (by decide) (Nat.le_of_ble_eq_true rfl) dX7_copyFrom_200 (fun H locs hP hD hS => ?_)
  have hP : va_P D vwCl (xX K r f_14 (va_up a_15 13 (va_cpy (a_15 107) (a_15 13) (0 : Int32).toNatClampNeg (0 : Int32).toNatClampNeg (8 : Int32).toNatClampNeg)) g (sI K r f_14 (va_up a_15 13 (va_cpy (a_15 107) (a_15 13) (0 : Int32).toNatClampNeg (0 : Int32).toNatClampNeg (8 : Int32).toNatClampNeg)) g ++ tx)) H := hP
  have hD : va_D A (xX K r f_14 (va_up a_15 13 (va_cpy (a_15 107) (a_15 13) (0 : Int32).toNatClampNeg (0 : Int32).toNatClampNeg (8 : Int32).toNatClampNeg)) g (sI K r f_14 (va_up a_15 13 (va_cpy (a_15 107) (a_15 13) (0 : Int32).toNatClampNeg (0 : Int32).toNatClampNeg (8 : Int32).toNatClampNeg)) g ++ tx)) := hD
  refine k_gen (P := fun z => va_P D vwCl (xX K r f_14 z g (sI K r f_14 z g ++ tx)) H ∧ va_D A (xX K r f_14 z g (sI K r f_14 z g ++ tx)) ∧ (xI f_14 z) ∧ (gOK K g.2 tt) ∧ (xEk ([32, 38, 44, 49, 50], [2, 3, 4, 5, 6, 7, 8, 9, 10, 11, 12, 13, 14], [15]) f a g f_14 z g)) (va_up a_15 13 (va_cpy (a_15 107) (a_15 13) (0 : Int32).toNatClampNeg (0 : Int32).toNatClampNeg (8 : Int32).toNatClampNeg)) ⟨hP, hD, (xI_a hI (by decide)), hG, (xEk_a hE rfl)⟩ (fun a_16 ea_16 hq => ?_)
  obtain ⟨hP, hD, hI, hG, hE⟩ := hq
  refine lv_aload_n hx hb dX7_copyFrom_203 rfl (lv_at hl 1 rfl) ?_
  refine va_get (D := D) (ci := 7) (v := .ref (r 108)) (C := RX7) (T := TX7) (N := 20) hx hb hg inC7 hown hK hP 95 rfl rfl 15 (by decide) (hg _ wt1_144) (fun _ h9 => h9) rfl dX7_copyFrom_204 ?_
  refine lv_iconst (v := 0) hx hb dX7_copyFrom_207 (by decide) ?_
  refine lv_aload_n hx hb dX7_copyFrom_208 rfl (lv_at hl 0 rfl) ?_
  refine va_get (D := D) (ci := 7) (v := .ref (r 14)) (C := RX7) (T := TX7) (N := 20) hx hb hg inC7 hown hK hP 1 rfl rfl 15 (by decide) (hg _ wt1_144) (fun _ h9 => h9) rfl dX7_copyFrom_209 ?_
  refine lv_iconst (v := 0) hx hb dX7_copyFrom_212 (by decide) ?_
  refine lv_bipush (v := 8) hx hb dX7_copyFrom_213 (by decide) ?_
  refine va_copyi (ty := .int) hx hb (hml.trans hl.1.symm) hown (hg _ wt4_83) (hg _ wt4_70) (hg _ wt4_69) (hg _ wt1_20) hK hP hD hS 108 14 0 0 rfl rfl rfl rfl rfl (by decide) (by decide) (by decide) (by decide +kernel) (by decide +kernel) (fun i _ => rfl) (by decide) (Nat.le_of_ble_eq_true rfl) dX7_copyFrom_215 (fun H locs hP hD hS => ?_)
  have hP : va_P D vwCl (xX K r f_14 (va_up a_16 14 (va_cpy (a_16 108) (a_16 14) (0 : Int32).toNatClampNeg (0 : Int32).toNatClampNeg (8 : Int32).toNatClampNeg)) g (sI K r f_14 (va_up a_16 14 (va_cpy (a_16 108) (a_16 14) (0 : Int32).toNatClampNeg (0 : Int32).toNatClampNeg (8 : Int32).toNatClampNeg)) g ++ tx)) H := hP
  have hD : va_D A (xX K r f_14 (va_up a_16 14 (va_cpy (a_16 108) (a_16 14) (0 : Int32).toNatClampNeg (0 : Int32).toNatClampNeg (8 : Int32).toNatClampNeg)) g (sI K r f_14 (va_up a_16 14 (va_cpy (a_16 108) (a_16 14) (0 : Int32).toNatClampNeg (0 : Int32).toNatClampNeg (8 : Int32).toNatClampNeg)) g ++ tx)) := hD
  refine k_gen (P := fun z => va_P D vwCl (xX K r f_14 z g (sI K r f_14 z g ++ tx)) H ∧ va_D A (xX K r f_14 z g (sI K r f_14 z g ++ tx)) ∧ (xI f_14 z) ∧ (gOK K g.2 tt) ∧ (xEk ([32, 38, 44, 49, 50], [2, 3, 4, 5, 6, 7, 8, 9, 10, 11, 12, 13, 14], [15]) f a g f_14 z g)) (va_up a_16 14 (va_cpy (a_16 108) (a_16 14) (0 : Int32).toNatClampNeg (0 : Int32).toNatClampNeg (8 : Int32).toNatClampNeg)) ⟨hP, hD, (xI_a hI (by decide)), hG, (xEk_a hE rfl)⟩ (fun a_17 ea_17 hq => ?_)
  obtain ⟨hP, hD, hI, hG, hE⟩ := hq
  refine lv_iconst (v := 0) hx hb dX7_copyFrom_218 (by decide) ?_
  refine lv_istore_n (lv' := [(2, .int 0), (0, .ref (r 1)), (1, .ref (r 95))]) hx hb dX7_copyFrom_219 rfl hl (by decide) rfl (fun ls hl => ?_)
  have lp20 : ∀ (n21 : Nat) (nn : Nat) (G19 : xG) (H : Heap) (locs : List Loc) (ls : Array Slot) (y18 : Int32), (6 < y18.toInt + (n21 : Int)) → (xI f_14 a_17) → (gOK K G19.2 tt) → (xEk ([32, 38, 44, 49, 50], [2, 3, 4, 5, 6, 7, 8, 9, 10, 11, 12, 13, 14], [15]) f a g f_14 a_17 G19) → (kb 0 y18 6) → (y18.toInt = (nn : Int)) → (∀ i, i < nn → G19.2 15 i = g.2 109 i) → (nn ≤ 6) → va_P D vwCl (xX K r f_14 a_17 G19 (sI K r f_14 a_17 G19 ++ tx)) H → va_D A (xX K r f_14 a_17 G19 (sI K r f_14 a_17 G19 ++ tx)) → va_S A s.heap H locs → lv_has ls 3 [(2, .int y18), (0, .ref (r 1)), (1, .ref (r 95))] → W p l e (rmD 2 0 0) s m ([.ref (r 1), .ref (r 95)] : List Value).toArray below meth c H locs 0 0 (kQv D (tysK K) (fun (u : xS) => xI u.1 u.2.1 ∧ gOK K u.2.2.2 tt ∧ xEk ([32, 38, 44, 49, 50], [2, 3, 4, 5, 6, 7, 8, 9, 10, 11, 12, 13, 14], [15]) f a g u.1 u.2.1 u.2.2 ∧ sV 32 2 u.1 u.2.1 k ∧ (∀ i, i < 6 → u.2.2.2 15 i = g.2 109 i)) (fun u => xX K r u.1 u.2.1 u.2.2 (sI K r u.1 u.2.1 u.2.2 ++ tx)) A below ([.ref (r 1), .ref (r 95)] : List Value).toArray s 0 0) (F0 m 220 ls []) := by
    intro n21
    induction n21 with
    | zero =>
      intro nn G19  H locs ls y18 hmlp20 hI hG hE b22 hvlp20_0 hvlp20_1 hvlp20_2 hP hD hS hl
      exact (by have h1 := b22.2; have h2 := hmlp20; omega : False).elim
    | succ n21 ihlp20 =>
      intro nn G19  H locs ls y18 hmlp20 hI hG hE b22 hvlp20_0 hvlp20_1 hvlp20_2 hP hD hS hl
      have hnn : y18 = nI nn := nI_q hvlp20_0
      have hE9 := hE
      refine lv_iload_n hx hb dX7_copyFrom_220 rfl (lv_at hl 0 rfl) ?_
      refine lv_bipush (v := 6) hx hb dX7_copyFrom_221 (by decide) ?_
      refine lv_icmp_ge (tgt := 244) hx hb dX7_copyFrom_223 (by decide) (fun c23 => ?_) (fun c23 => ?_)
      · have h24 := (kc_le c23)
        have b25 : kb 6 y18 6 := kr_le2 h24 kc_6 b22
        refine lv_aload_n hx hb dX7_copyFrom_244 rfl (lv_at hl 1 rfl) ?_
        refine lv_aload_n hx hb dX7_copyFrom_245 rfl (lv_at hl 2 rfl) ?_
        refine va_get (D := D) (ci := 7) (v := .int (f_14 3057)) (C := RX7) (T := TX7) (N := 20) hx hb hg inC7 hown hK hP 95 rfl rfl 17 (by decide) (hg _ wt1_149) (fun _ h9 => h9) rfl dX7_copyFrom_246 ?_
        refine k_top (z := s3057) ((show f_14 3057 = f_8 3057 from by rw [← ef_14]; rfl).trans ((show f_8 3057 = f_2 3057 from by rw [← ef_8]; rfl).trans ((show f_2 3057 = f 3057 from by rw [← ef_2]; rfl).trans es3057.symm))) ?_
        refine va_put (D := D) (ci := 7) (v := .int s3057) (ty := .int) (C := RX7) (T := TX7) (N := 20) hx hb hg inC7 tyX7 tyX7_ok nmX7 hown hK hP hD hS 1 rfl rfl 17 (by decide) (hg _ wt1_149) (fun _ h9 => h9) rfl (by decide +kernel) rfl rfl (Nat.le_of_ble_eq_true rfl) dX7_copyFrom_249 (fun H locs hP hD hS => ?_)
        have hP : va_P D vwCl (xX K r (upd f_14 49 s3057) a_17 G19 (sI K r (upd f_14 49 s3057) a_17 G19 ++ tx)) H := hP
        have hD : va_D A (xX K r (upd f_14 49 s3057) a_17 G19 (sI K r (upd f_14 49 s3057) a_17 G19 ++ tx)) := hD
        refine k_gen (P := fun z => va_P D vwCl (xX K r z a_17 G19 (sI K r z a_17 G19 ++ tx)) H ∧ va_D A (xX K r z a_17 G19 (sI K r z a_17 G19 ++ tx)) ∧ (xI z a_17) ∧ (gOK K G19.2 tt) ∧ (xEk ([32, 38, 44, 49, 50], [2, 3, 4, 5, 6, 7, 8, 9, 10, 11, 12, 13, 14], [15]) f a g z a_17 G19)) (upd f_14 49 s3057) ⟨hP, hD, (xI_f hI (fI_st hI.1 49 (kb_any _) (by decide) (by decide))), hG, (xEk_f hE rfl)⟩ (fun f_26 ef_26 hq => ?_)
        obtain ⟨hP, hD, hI, hG, hE⟩ := hq
        refine lv_aload_n hx hb dX7_copyFrom_252 rfl (lv_at hl 1 rfl) ?_
        refine lv_aload_n hx hb dX7_copyFrom_253 rfl (lv_at hl 2 rfl) ?_
        refine va_get (D := D) (ci := 7) (v := .int (f_26 3058)) (C := RX7) (T := TX7) (N := 20) hx hb hg inC7 hown hK hP 95 rfl rfl 18 (by decide) (hg _ wt1_151) (fun _ h9 => h9) rfl dX7_copyFrom_254 ?_
        refine k_top (z := s3058) ((show f_26 3058 = f_14 3058 from by rw [← ef_26]; rfl).trans ((show f_14 3058 = f_8 3058 from by rw [← ef_14]; rfl).trans ((show f_8 3058 = f_2 3058 from by rw [← ef_8]; rfl).trans ((show f_2 3058 = f 3058 from by rw [← ef_2]; rfl).trans es3058.symm)))) ?_
        refine va_put (D := D) (ci := 7) (v := .int s3058) (ty := .int) (C := RX7) (T := TX7) (N := 20) hx hb hg inC7 tyX7 tyX7_ok nmX7 hown hK hP hD hS 1 rfl rfl 18 (by decide) (hg _ wt1_151) (fun _ h9 => h9) rfl (by decide +kernel) rfl rfl (Nat.le_of_ble_eq_true rfl) dX7_copyFrom_257 (fun H locs hP hD hS => ?_)
        have hP : va_P D vwCl (xX K r (upd f_26 50 s3058) a_17 G19 (sI K r (upd f_26 50 s3058) a_17 G19 ++ tx)) H := hP
        have hD : va_D A (xX K r (upd f_26 50 s3058) a_17 G19 (sI K r (upd f_26 50 s3058) a_17 G19 ++ tx)) := hD
        refine k_gen (P := fun z => va_P D vwCl (xX K r z a_17 G19 (sI K r z a_17 G19 ++ tx)) H ∧ va_D A (xX K r z a_17 G19 (sI K r z a_17 G19 ++ tx)) ∧ (xI z a_17) ∧ (gOK K G19.2 tt) ∧ (xEk ([32, 38, 44, 49, 50], [2, 3, 4, 5, 6, 7, 8, 9, 10, 11, 12, 13, 14], [15]) f a g z a_17 G19)) (upd f_26 50 s3058) ⟨hP, hD, (xI_f hI (fI_st hI.1 50 (kb_any _) (by decide) (by decide))), hG, (xEk_f hE rfl)⟩ (fun f_27 ef_27 hq => ?_)
        obtain ⟨hP, hD, hI, hG, hE⟩ := hq
        exact kV_ret hx hb hr hlocks hK hS dX7_copyFrom_260 (f_27, a_17, G19) hP hD ⟨hI, hG, hE, (sV_cp hVw ((((show f_27 32 = f_26 32 from by rw [← ef_27]; rfl).trans ((show f_26 32 = f_14 32 from by rw [← ef_26]; rfl).trans ((show f_14 32 = f_8 32 from by rw [← ef_14]; rfl).trans ((show f_8 32 = f_2 32 from by rw [← ef_8]; rfl).trans (show f_2 32 = s3040 from by rw [← ef_2]; rfl)))))).trans es3040) ((((show f_27 38 = f_26 38 from by rw [← ef_27]; rfl).trans ((show f_26 38 = f_14 38 from by rw [← ef_26]; rfl).trans ((show f_14 38 = f_8 38 from by rw [← ef_14]; rfl).trans (show f_8 38 = s3046 from by rw [← ef_8]; rfl))))).trans es3046) ((((show f_27 44 = f_26 44 from by rw [← ef_27]; rfl).trans ((show f_26 44 = f_14 44 from by rw [← ef_26]; rfl).trans (show f_14 44 = s3052 from by rw [← ef_14]; rfl)))).trans es3052) ((((show f_27 49 = f_26 49 from by rw [← ef_27]; rfl).trans (show f_26 49 = s3057 from by rw [← ef_26]; rfl))).trans es3057) (((show f_27 50 = s3058 from by rw [← ef_27]; rfl)).trans es3058) (fun i hi => (congrFun ((show a_17 2 = a_16 2 from by rw [← ea_17]; rfl).trans ((show a_16 2 = a_15 2 from by rw [← ea_16]; rfl).trans ((show a_15 2 = a_13 2 from by rw [← ea_15]; rfl).trans ((show a_13 2 = a_12 2 from by rw [← ea_13]; rfl).trans ((show a_12 2 = a_11 2 from by rw [← ea_12]; rfl).trans ((show a_11 2 = a_10 2 from by rw [← ea_11]; rfl).trans ((show a_10 2 = a_9 2 from by rw [← ea_10]; rfl).trans ((show a_9 2 = a_7 2 from by rw [← ea_9]; rfl).trans ((show a_7 2 = a_6 2 from by rw [← ea_7]; rfl).trans ((show a_6 2 = a_5 2 from by rw [← ea_6]; rfl).trans ((show a_5 2 = a_4 2 from by rw [← ea_5]; rfl).trans (show a_4 2 = a_3 2 from by rw [← ea_4]; rfl)))))))))))) i).trans ((cp_z (n := 10) (show a_3 2 = _ from by rw [← ea_3]; rfl) (by decide +kernel) (by decide +kernel) (by decide +kernel) i hi).trans (congrFun rfl i))) (fun i hi => (congrFun ((show a_17 3 = a_16 3 from by rw [← ea_17]; rfl).trans ((show a_16 3 = a_15 3 from by rw [← ea_16]; rfl).trans ((show a_15 3 = a_13 3 from by rw [← ea_15]; rfl).trans ((show a_13 3 = a_12 3 from by rw [← ea_13]; rfl).trans ((show a_12 3 = a_11 3 from by rw [← ea_12]; rfl).trans ((show a_11 3 = a_10 3 from by rw [← ea_11]; rfl).trans ((show a_10 3 = a_9 3 from by rw [← ea_10]; rfl).trans ((show a_9 3 = a_7 3 from by rw [← ea_9]; rfl).trans ((show a_7 3 = a_6 3 from by rw [← ea_7]; rfl).trans ((show a_6 3 = a_5 3 from by rw [← ea_6]; rfl).trans (show a_5 3 = a_4 3 from by rw [← ea_5]; rfl))))))))))) i).trans ((cp_z (n := 10) (show a_4 3 = _ from by rw [← ea_4]; rfl) (by decide +kernel) (by decide +kernel) (by decide +kernel) i hi).trans (congrFun (show a_3 97 = a 97 from by rw [← ea_3]; rfl) i))) (fun i hi => (congrFun ((show a_17 4 = a_16 4 from by rw [← ea_17]; rfl).trans ((show a_16 4 = a_15 4 from by rw [← ea_16]; rfl).trans ((show a_15 4 = a_13 4 from by rw [← ea_15]; rfl).trans ((show a_13 4 = a_12 4 from by rw [← ea_13]; rfl).trans ((show a_12 4 = a_11 4 from by rw [← ea_12]; rfl).trans ((show a_11 4 = a_10 4 from by rw [← ea_11]; rfl).trans ((show a_10 4 = a_9 4 from by rw [← ea_10]; rfl).trans ((show a_9 4 = a_7 4 from by rw [← ea_9]; rfl).trans ((show a_7 4 = a_6 4 from by rw [← ea_7]; rfl).trans (show a_6 4 = a_5 4 from by rw [← ea_6]; rfl)))))))))) i).trans ((cp_z (n := 10) (show a_5 4 = _ from by rw [← ea_5]; rfl) (by decide +kernel) (by decide +kernel) (by decide +kernel) i hi).trans (congrFun ((show a_4 98 = a_3 98 from by rw [← ea_4]; rfl).trans (show a_3 98 = a 98 from by rw [← ea_3]; rfl)) i))) (fun i hi => (congrFun ((show a_17 5 = a_16 5 from by rw [← ea_17]; rfl).trans ((show a_16 5 = a_15 5 from by rw [← ea_16]; rfl).trans ((show a_15 5 = a_13 5 from by rw [← ea_15]; rfl).trans ((show a_13 5 = a_12 5 from by rw [← ea_13]; rfl).trans ((show a_12 5 = a_11 5 from by rw [← ea_12]; rfl).trans ((show a_11 5 = a_10 5 from by rw [← ea_11]; rfl).trans ((show a_10 5 = a_9 5 from by rw [← ea_10]; rfl).trans ((show a_9 5 = a_7 5 from by rw [← ea_9]; rfl).trans (show a_7 5 = a_6 5 from by rw [← ea_7]; rfl))))))))) i).trans ((cp_z (n := 10) (show a_6 5 = _ from by rw [← ea_6]; rfl) (by decide +kernel) (by decide +kernel) (by decide +kernel) i hi).trans (congrFun ((show a_5 99 = a_4 99 from by rw [← ea_5]; rfl).trans ((show a_4 99 = a_3 99 from by rw [← ea_4]; rfl).trans (show a_3 99 = a 99 from by rw [← ea_3]; rfl))) i))) (fun i hi => (congrFun ((show a_17 6 = a_16 6 from by rw [← ea_17]; rfl).trans ((show a_16 6 = a_15 6 from by rw [← ea_16]; rfl).trans ((show a_15 6 = a_13 6 from by rw [← ea_15]; rfl).trans ((show a_13 6 = a_12 6 from by rw [← ea_13]; rfl).trans ((show a_12 6 = a_11 6 from by rw [← ea_12]; rfl).trans ((show a_11 6 = a_10 6 from by rw [← ea_11]; rfl).trans ((show a_10 6 = a_9 6 from by rw [← ea_10]; rfl).trans (show a_9 6 = a_7 6 from by rw [← ea_9]; rfl)))))))) i).trans ((cp_z (n := 10) (show a_7 6 = _ from by rw [← ea_7]; rfl) (by decide +kernel) (by decide +kernel) (by decide +kernel) i hi).trans (congrFun ((show a_6 100 = a_5 100 from by rw [← ea_6]; rfl).trans ((show a_5 100 = a_4 100 from by rw [← ea_5]; rfl).trans ((show a_4 100 = a_3 100 from by rw [← ea_4]; rfl).trans (show a_3 100 = a 100 from by rw [← ea_3]; rfl)))) i))) (fun i hi => (congrFun ((show a_17 7 = a_16 7 from by rw [← ea_17]; rfl).trans ((show a_16 7 = a_15 7 from by rw [← ea_16]; rfl).trans ((show a_15 7 = a_13 7 from by rw [← ea_15]; rfl).trans ((show a_13 7 = a_12 7 from by rw [← ea_13]; rfl).trans ((show a_12 7 = a_11 7 from by rw [← ea_12]; rfl).trans ((show a_11 7 = a_10 7 from by rw [← ea_11]; rfl).trans (show a_10 7 = a_9 7 from by rw [← ea_10]; rfl))))))) i).trans ((cp_z (n := 6) (show a_9 7 = _ from by rw [← ea_9]; rfl) (by decide +kernel) (by decide +kernel) (by decide +kernel) i hi).trans (congrFun ((show a_7 101 = a_6 101 from by rw [← ea_7]; rfl).trans ((show a_6 101 = a_5 101 from by rw [← ea_6]; rfl).trans ((show a_5 101 = a_4 101 from by rw [← ea_5]; rfl).trans ((show a_4 101 = a_3 101 from by rw [← ea_4]; rfl).trans (show a_3 101 = a 101 from by rw [← ea_3]; rfl))))) i))) (fun i hi => (congrFun ((show a_17 8 = a_16 8 from by rw [← ea_17]; rfl).trans ((show a_16 8 = a_15 8 from by rw [← ea_16]; rfl).trans ((show a_15 8 = a_13 8 from by rw [← ea_15]; rfl).trans ((show a_13 8 = a_12 8 from by rw [← ea_13]; rfl).trans ((show a_12 8 = a_11 8 from by rw [← ea_12]; rfl).trans (show a_11 8 = a_10 8 from by rw [← ea_11]; rfl)))))) i).trans ((cp_z (n := 6) (show a_10 8 = _ from by rw [← ea_10]; rfl) (by decide +kernel) (by decide +kernel) (by decide +kernel) i hi).trans (congrFun ((show a_9 102 = a_7 102 from by rw [← ea_9]; rfl).trans ((show a_7 102 = a_6 102 from by rw [← ea_7]; rfl).trans ((show a_6 102 = a_5 102 from by rw [← ea_6]; rfl).trans ((show a_5 102 = a_4 102 from by rw [← ea_5]; rfl).trans ((show a_4 102 = a_3 102 from by rw [← ea_4]; rfl).trans (show a_3 102 = a 102 from by rw [← ea_3]; rfl)))))) i))) (fun i hi => (congrFun ((show a_17 9 = a_16 9 from by rw [← ea_17]; rfl).trans ((show a_16 9 = a_15 9 from by rw [← ea_16]; rfl).trans ((show a_15 9 = a_13 9 from by rw [← ea_15]; rfl).trans ((show a_13 9 = a_12 9 from by rw [← ea_13]; rfl).trans (show a_12 9 = a_11 9 from by rw [← ea_12]; rfl))))) i).trans ((cp_z (n := 6) (show a_11 9 = _ from by rw [← ea_11]; rfl) (by decide +kernel) (by decide +kernel) (by decide +kernel) i hi).trans (congrFun ((show a_10 103 = a_9 103 from by rw [← ea_10]; rfl).trans ((show a_9 103 = a_7 103 from by rw [← ea_9]; rfl).trans ((show a_7 103 = a_6 103 from by rw [← ea_7]; rfl).trans ((show a_6 103 = a_5 103 from by rw [← ea_6]; rfl).trans ((show a_5 103 = a_4 103 from by rw [← ea_5]; rfl).trans ((show a_4 103 = a_3 103 from by rw [← ea_4]; rfl).trans (show a_3 103 = a 103 from by rw [← ea_3]; rfl))))))) i))) (fun i hi => (congrFun ((show a_17 10 = a_16 10 from by rw [← ea_17]; rfl).trans ((show a_16 10 = a_15 10 from by rw [← ea_16]; rfl).trans ((show a_15 10 = a_13 10 from by rw [← ea_15]; rfl).trans (show a_13 10 = a_12 10 from by rw [← ea_13]; rfl)))) i).trans ((cp_z (n := 6) (show a_12 10 = _ from by rw [← ea_12]; rfl) (by decide +kernel) (by decide +kernel) (by decide +kernel) i hi).trans (congrFun ((show a_11 104 = a_10 104 from by rw [← ea_11]; rfl).trans ((show a_10 104 = a_9 104 from by rw [← ea_10]; rfl).trans ((show a_9 104 = a_7 104 from by rw [← ea_9]; rfl).trans ((show a_7 104 = a_6 104 from by rw [← ea_7]; rfl).trans ((show a_6 104 = a_5 104 from by rw [← ea_6]; rfl).trans ((show a_5 104 = a_4 104 from by rw [← ea_5]; rfl).trans ((show a_4 104 = a_3 104 from by rw [← ea_4]; rfl).trans (show a_3 104 = a 104 from by rw [← ea_3]; rfl)))))))) i))) (fun i hi => (congrFun ((show a_17 11 = a_16 11 from by rw [← ea_17]; rfl).trans ((show a_16 11 = a_15 11 from by rw [← ea_16]; rfl).trans (show a_15 11 = a_13 11 from by rw [← ea_15]; rfl))) i).trans ((cp_z (n := 4) (show a_13 11 = _ from by rw [← ea_13]; rfl) (by decide +kernel) (by decide +kernel) (by decide +kernel) i hi).trans (congrFun ((show a_12 105 = a_11 105 from by rw [← ea_12]; rfl).trans ((show a_11 105 = a_10 105 from by rw [← ea_11]; rfl).trans ((show a_10 105 = a_9 105 from by rw [← ea_10]; rfl).trans ((show a_9 105 = a_7 105 from by rw [← ea_9]; rfl).trans ((show a_7 105 = a_6 105 from by rw [← ea_7]; rfl).trans ((show a_6 105 = a_5 105 from by rw [← ea_6]; rfl).trans ((show a_5 105 = a_4 105 from by rw [← ea_5]; rfl).trans ((show a_4 105 = a_3 105 from by rw [← ea_4]; rfl).trans (show a_3 105 = a 105 from by rw [← ea_3]; rfl))))))))) i))) (fun i hi => (congrFun ((show a_17 12 = a_16 12 from by rw [← ea_17]; rfl).trans (show a_16 12 = a_15 12 from by rw [← ea_16]; rfl)) i).trans ((cp_z (n := 8) (show a_15 12 = _ from by rw [← ea_15]; rfl) (by decide +kernel) (by decide +kernel) (by decide +kernel) i hi).trans (congrFun ((show a_13 106 = a_12 106 from by rw [← ea_13]; rfl).trans ((show a_12 106 = a_11 106 from by rw [← ea_12]; rfl).trans ((show a_11 106 = a_10 106 from by rw [← ea_11]; rfl).trans ((show a_10 106 = a_9 106 from by rw [← ea_10]; rfl).trans ((show a_9 106 = a_7 106 from by rw [← ea_9]; rfl).trans ((show a_7 106 = a_6 106 from by rw [← ea_7]; rfl).trans ((show a_6 106 = a_5 106 from by rw [← ea_6]; rfl).trans ((show a_5 106 = a_4 106 from by rw [← ea_5]; rfl).trans ((show a_4 106 = a_3 106 from by rw [← ea_4]; rfl).trans (show a_3 106 = a 106 from by rw [← ea_3]; rfl)))))))))) i))) (fun i hi => (congrFun (show a_17 13 = a_16 13 from by rw [← ea_17]; rfl) i).trans ((cp_z (n := 8) (show a_16 13 = _ from by rw [← ea_16]; rfl) (by decide +kernel) (by decide +kernel) (by decide +kernel) i hi).trans (congrFun ((show a_15 107 = a_13 107 from by rw [← ea_15]; rfl).trans ((show a_13 107 = a_12 107 from by rw [← ea_13]; rfl).trans ((show a_12 107 = a_11 107 from by rw [← ea_12]; rfl).trans ((show a_11 107 = a_10 107 from by rw [← ea_11]; rfl).trans ((show a_10 107 = a_9 107 from by rw [← ea_10]; rfl).trans ((show a_9 107 = a_7 107 from by rw [← ea_9]; rfl).trans ((show a_7 107 = a_6 107 from by rw [← ea_7]; rfl).trans ((show a_6 107 = a_5 107 from by rw [← ea_6]; rfl).trans ((show a_5 107 = a_4 107 from by rw [← ea_5]; rfl).trans ((show a_4 107 = a_3 107 from by rw [← ea_4]; rfl).trans (show a_3 107 = a 107 from by rw [← ea_3]; rfl))))))))))) i))) (fun i hi => (congrFun rfl i).trans ((cp_z (n := 8) (show a_17 14 = _ from by rw [← ea_17]; rfl) (by decide +kernel) (by decide +kernel) (by decide +kernel) i hi).trans (congrFun ((show a_16 108 = a_15 108 from by rw [← ea_16]; rfl).trans ((show a_15 108 = a_13 108 from by rw [← ea_15]; rfl).trans ((show a_13 108 = a_12 108 from by rw [← ea_13]; rfl).trans ((show a_12 108 = a_11 108 from by rw [← ea_12]; rfl).trans ((show a_11 108 = a_10 108 from by rw [← ea_11]; rfl).trans ((show a_10 108 = a_9 108 from by rw [← ea_10]; rfl).trans ((show a_9 108 = a_7 108 from by rw [← ea_9]; rfl).trans ((show a_7 108 = a_6 108 from by rw [← ea_7]; rfl).trans ((show a_6 108 = a_5 108 from by rw [← ea_6]; rfl).trans ((show a_5 108 = a_4 108 from by rw [← ea_5]; rfl).trans ((show a_4 108 = a_3 108 from by rw [← ea_4]; rfl).trans (show a_3 108 = a 108 from by rw [← ea_3]; rfl)))))))))))) i)))), (by have w9 := hvlp20_1; rw [show nn = 6 by have w1 := hvlp20_0; have w2 := (b25).1; have w3 := hvlp20_2; omega] at w9; exact w9)⟩
      · have h28 := (kc_nle c23)
        have b29 : kb 0 y18 5 := kr_lt1 h28 b22 kc_6 (by decide)
        refine lv_aload_n hx hb dX7_copyFrom_226 rfl (lv_at hl 1 rfl) ?_
        refine va_get (D := D) (ci := 7) (v := .ref (r 15)) (C := RX7) (T := TX7) (N := 20) hx hb hg inC7 hown hK hP 1 rfl rfl 16 (by decide) (hg _ wt1_147) (fun _ h9 => h9) rfl dX7_copyFrom_227 ?_
        refine lv_iload_n hx hb dX7_copyFrom_230 rfl (lv_at hl 0 rfl) ?_
        refine lv_aload_n hx hb dX7_copyFrom_231 rfl (lv_at hl 2 rfl) ?_
        refine va_get (D := D) (ci := 7) (v := .ref (r 109)) (C := RX7) (T := TX7) (N := 20) hx hb hg inC7 hown hK hP 95 rfl rfl 16 (by decide) (hg _ wt1_147) (fun _ h9 => h9) rfl dX7_copyFrom_232 ?_
        refine lv_iload_n hx hb dX7_copyFrom_235 rfl (lv_at hl 0 rfl) ?_
        refine va_aldq hx hb hK hP 109 5 rfl rfl (kb_in b29 (by decide) (by decide)) dX7_copyFrom_236 ?_
        rcases hG 109 (y18.toNatClampNeg) (by decide) with hn31 | hn31
        · refine k_topn hn31 ?_
          refine va_astqN hx hb hK hP hD hS 15 5 rfl rfl (kb_in b29 (by decide) (by decide)) dX7_copyFrom_237 (fun H locs hP hD hS => ?_)
          have hP : va_P D vwCl (xX K r f_14 a_17 (G19.1, va_up G19.2 15 (va_up (G19.2 15) y18.toNatClampNeg none)) (sI K r f_14 a_17 (G19.1, va_up G19.2 15 (va_up (G19.2 15) y18.toNatClampNeg none)) ++ tx)) H := hP
          have hD : va_D A (xX K r f_14 a_17 (G19.1, va_up G19.2 15 (va_up (G19.2 15) y18.toNatClampNeg none)) (sI K r f_14 a_17 (G19.1, va_up G19.2 15 (va_up (G19.2 15) y18.toNatClampNeg none)) ++ tx)) := hD
          refine k_gen (P := fun z => va_P D vwCl (xX K r f_14 a_17 z (sI K r f_14 a_17 z ++ tx)) H ∧ va_D A (xX K r f_14 a_17 z (sI K r f_14 a_17 z ++ tx)) ∧ (xI f_14 a_17) ∧ (gOK K z.2 tt) ∧ (xEk ([32, 38, 44, 49, 50], [2, 3, 4, 5, 6, 7, 8, 9, 10, 11, 12, 13, 14], [15]) f a g f_14 a_17 z)) ((G19.1, va_up G19.2 15 (va_up (G19.2 15) y18.toNatClampNeg none))) ⟨hP, hD, hI, (gOK_n hG _ _ _ (Or.inl rfl)), (xEk_q hE rfl)⟩ (fun g_32 eg_32 hq => ?_)
          obtain ⟨hP, hD, hI, hG, hE⟩ := hq
          obtain ⟨t33, et33⟩ : ∃ z : Int32, z = y18 + Int32.ofInt 1 := ⟨_, rfl⟩
          have qt33 : t33.toInt = y18.toInt + 1 := by rw [et33]; exact km_inc b29 (by decide) (by decide)
          have b34 : kb 1 t33 6 := kb_inc (k := 1) qt33 b29
          refine lv_iinc (v := t33) (lv' := [(2, .int t33), (0, .ref (r 1)), (1, .ref (r 95))]) hx hb dX7_copyFrom_238 hl (k := 0) rfl et33.symm (by decide) rfl (fun ls hl => ?_)
          refine lv_goto (tgt := 220) hx hb dX7_copyFrom_241 (by decide) ?_
          exact ihlp20 (nn + 1) g_32 _ _ _ t33 (km_up hmlp20 qt33) hI hG hE (kb_w b34 (by decide) (by decide)) (by have w1 := hvlp20_0; have w2 := qt33; omega) (rf_s (ix := y18.toNatClampNeg) hvlp20_1 (fun i => by rw [← eg_32]; rfl) (cl_nat hvlp20_0) (by rw [← congrFun (show G19.2 109 = g.2 109 from hE9.2.2 109 rfl) nn, ← cl_nat hvlp20_0]; exact hn31.symm)) (by have w1 := hvlp20_0; have w2 := (b29).2; omega) hP hD hS (lv_sub hl [0, 1, 2] rfl)
        · obtain ⟨t30, ht30, hn31⟩ := hn31
          refine k_tops hn31 ?_
          obtain ⟨jt30_0, hjt30_0⟩ := tIn_at (tIn_w hT ht30) (k := 0) rfl
          obtain ⟨jt30_1, hjt30_1⟩ := tIn_at (tIn_w hT ht30) (k := 1) rfl
          obtain ⟨jt30_2, hjt30_2⟩ := tIn_at (tIn_w hT ht30) (k := 2) rfl
          obtain ⟨jt30_3, hjt30_3⟩ := tIn_at (tIn_w hT ht30) (k := 3) rfl
          obtain ⟨jt30_4, hjt30_4⟩ := tIn_at (tIn_w hT ht30) (k := 4) rfl
          have hnt30 : (nI t30.2.2.2).toInt = (t30.2.2.2 : Int) := kn_to (by have w1 := ht30.1; omega)
          refine va_astq hx hb hK hP hD hS 15 5 (jt30_0 + 116) 10 rfl rfl hjt30_0 rfl (kb_in b29 (by decide) (by decide)) dX7_copyFrom_237 (fun H locs hP hD hS => ?_)
          have hP : va_P D vwCl (xX K r f_14 a_17 (G19.1, va_up G19.2 15 (va_up (G19.2 15) y18.toNatClampNeg (some (t30.1 0)))) (sI K r f_14 a_17 (G19.1, va_up G19.2 15 (va_up (G19.2 15) y18.toNatClampNeg (some (t30.1 0)))) ++ tx)) H := hP
          have hD : va_D A (xX K r f_14 a_17 (G19.1, va_up G19.2 15 (va_up (G19.2 15) y18.toNatClampNeg (some (t30.1 0)))) (sI K r f_14 a_17 (G19.1, va_up G19.2 15 (va_up (G19.2 15) y18.toNatClampNeg (some (t30.1 0)))) ++ tx)) := hD
          refine k_gen (P := fun z => va_P D vwCl (xX K r f_14 a_17 z (sI K r f_14 a_17 z ++ tx)) H ∧ va_D A (xX K r f_14 a_17 z (sI K r f_14 a_17 z ++ tx)) ∧ (xI f_14 a_17) ∧ (gOK K z.2 tt) ∧ (xEk ([32, 38, 44, 49, 50], [2, 3, 4, 5, 6, 7, 8, 9, 10, 11, 12, 13, 14], [15]) f a g f_14 a_17 z)) ((G19.1, va_up G19.2 15 (va_up (G19.2 15) y18.toNatClampNeg (some (t30.1 0))))) ⟨hP, hD, hI, (gOK_n hG _ _ _ (Or.inr ⟨_, ht30, rfl⟩)), (xEk_q hE rfl)⟩ (fun g_35 eg_35 hq => ?_)
          obtain ⟨hP, hD, hI, hG, hE⟩ := hq
          obtain ⟨t36, et36⟩ : ∃ z : Int32, z = y18 + Int32.ofInt 1 := ⟨_, rfl⟩
          have qt36 : t36.toInt = y18.toInt + 1 := by rw [et36]; exact km_inc b29 (by decide) (by decide)
          have b37 : kb 1 t36 6 := kb_inc (k := 1) qt36 b29
          refine lv_iinc (v := t36) (lv' := [(2, .int t36), (0, .ref (r 1)), (1, .ref (r 95))]) hx hb dX7_copyFrom_238 hl (k := 0) rfl et36.symm (by decide) rfl (fun ls hl => ?_)
          refine lv_goto (tgt := 220) hx hb dX7_copyFrom_241 (by decide) ?_
          exact ihlp20 (nn + 1) g_35 _ _ _ t36 (km_up hmlp20 qt36) hI hG hE (kb_w b37 (by decide) (by decide)) (by have w1 := hvlp20_0; have w2 := qt36; omega) (rf_s (ix := y18.toNatClampNeg) hvlp20_1 (fun i => by rw [← eg_35]; rfl) (cl_nat hvlp20_0) (by rw [← congrFun (show G19.2 109 = g.2 109 from hE9.2.2 109 rfl) nn, ← cl_nat hvlp20_0]; exact hn31.symm)) (by have w1 := hvlp20_0; have w2 := (b29).2; omega) hP hD hS (lv_sub hl [0, 1, 2] rfl)
  exact lp20 (7) 0 g _ _ _ 0 (by have h1 := (kc_0); unfold kb at h1; omega) hI hG hE (kb_w kc_0 (by decide) (by decide)) (by decide +kernel) (fun i h => absurd h (Nat.not_lt_zero i)) (Nat.zero_le _) hP hD hS (lv_sub hl [0, 1, 2] rfl)
set_option maxHeartbeats 4000000 in
set_option maxRecDepth 100000 in
theorem z_img_t0 {p : Program} {e : Env} {s : State} {m : MethodId} {below : List Frame} {meth : Method} {c : Code} {A : Nat → Prop} (l : Launch) {D : va_G} {K : Nat → ClassId} {r : Nat → Nat} {f0 : Nat → Int32} {a0 : Nat → Nat → Int32} (hx : p.tables.exec = Jvm.exec) (hb : c.code = cX11_image) (hr : meth.sig.returnType = some .int) (hml : c.maxLocals = 2) (hown : s.vm.findClass RX11 = some m.cls) (hlocks : meth.locks = false) (hK : va_K D vwCl (tysK K) s) (hA : ∀ q, s.heap.size ≤ q → A q) (hV : xE K A s s.heap) {g : xG} {g0 : Nat → Nat → Option Nat} {i0 i1 : Option sX} {tt : va_W} {sx : sX} {x : Int32} (ex : x = 0) (hg : ∀ w ∈ kG, w.before ([.ref (r 0), .int x] : List Value).toArray s = true) (hI : xI f0 a0) (hG : gOK K g.2 tt) (h0 : kb 0 (sx.2.1 3040) 10) (h1 : rOK K tt (sx.2.2.2.2 109)) (ho : iOK K tt i1) (hgk : g.2 92 0 = some (sx.1 95)) (hgo : g.2 92 1 = iA i1) (hgF : ∀ s, s < 95 → [92].contains s = false → g.2 s = g0 s) {k : Nat → Int32} (hVw : sV 32 2 f0 a0 k) (hkk : kK k) {H : Heap} {locs : List Loc} {ls : Array Slot} (hP : va_P D vwCl (xX K r f0 a0 g (sI K sx.1 sx.2.1 sx.2.2.1 sx.2.2.2 ++ (iW K i1 ++ tt))) H) (hD : va_D A (xX K r f0 a0 g (sI K sx.1 sx.2.1 sx.2.2.1 sx.2.2.2 ++ (iW K i1 ++ tt)))) (hS : va_S A s.heap H locs) (hl : lv_has ls 2 [(0, .ref (r 0)), (1, .int 0)]) : W p l e (rmD 8 21 197) s m ([.ref (r 0), .int x] : List Value).toArray below meth c H locs 21 197 (kQi D (tysK K) (fun v (u : xS × Option sX × Option sX) => xI u.1.1 u.1.2.1 ∧ gOK K u.1.2.2.2 tt ∧ iOK K tt u.2.1 ∧ iOK K tt u.2.2 ∧ u.1.2.2.2 92 0 = iA u.2.1 ∧ u.1.2.2.2 92 1 = iA u.2.2 ∧ nF [16] [94] [92] f0 a0 g0 u.1.1 u.1.2.1 u.1.2.2.2 ∧ imZ x v i0 i1 u.2.1 u.2.2 k (g0 15) (a0 94) (u.1.2.1 94) ∧ u.1.1 16 = v) (fun u => xX K r u.1.1 u.1.2.1 u.1.2.2 (iW K u.2.1 ++ (iW K u.2.2 ++ tt))) A below ([.ref (r 0), .int x] : List Value).toArray s 21 197) (F0 m 37 ls []) := by
  refine lv_aload_n hx hb dX11_image_37 rfl (lv_at hl 0 rfl) ?_
  refine va_get (D := D) (ci := 11) (v := .ref (r 92)) (C := RX11) (T := TX11) (N := 17) hx hb hg inC11 hown hK hP 0 rfl rfl 9 (by decide) (hg _ wt2_195) (fun _ h9 => h9) rfl dX11_image_38 ?_
  refine lv_iload_n hx hb dX11_image_41 rfl (lv_at hl 1 rfl) ?_
  refine va_aldq hx hb hK hP 92 4 rfl rfl (k_in (by decide +kernel)) dX11_image_42 ?_
  rw [cl_0]
  refine k_tops hgk ?_
  refine lv_aload_n hx hb dX11_image_43 rfl (lv_at hl 0 rfl) ?_
  refine va_get (D := D) (ci := 11) (v := .ref (r 1)) (C := RX11) (T := TX11) (N := 17) hx hb hg inC11 hown hK hP 0 rfl rfl 0 (by decide) (hg _ wt2_186) (fun _ h9 => h9) rfl dX11_image_44 ?_
  have hP : va_P D vwCl (xX K (mr r sx) (mf f0 sx) (ma a0 sx) (mg g sx) (sI K (mr r sx) (mf f0 sx) (ma a0 sx) (mg g sx) ++ (iW K i1 ++ tt))) H := hP
  have hD : va_D A (xX K (mr r sx) (mf f0 sx) (ma a0 sx) (mg g sx) (sI K (mr r sx) (mf f0 sx) (ma a0 sx) (mg g sx) ++ (iW K i1 ++ tt))) := hD
  refine kVG.callW (As := [.ref (r 1)]) (rest := []) ⟨hx, hb, hml, hown, hg⟩ (z_copyFromI l (mr r sx) (mf f0 sx) (ma a0 sx) (mg g sx) (iW K i1 ++ tt) tt mem_r (xI_m hI h0) (gOK_m hG h1) k hVw hkk) (cwV 1 hg (kgV wt5_141 wt4_80 wt4_81 wt1_2 wt4_82) rfl rfl rfl (by decide +kernel) ⟨by decide, by decide⟩) hV hK hP hD hS hA 95 7 rfl rfl rfl hl.1 rfl (Nat.le_of_ble_eq_true rfl) dX11_image_47 ⟨by decide, by decide⟩ (fun u1 H locs h1 hP hD hS => ?_)
  obtain ⟨f1, a1, g1⟩ := u1
  obtain ⟨hI1, hG1, hE1, hp1, hp2⟩ := h1
  have hP : va_P D vwCl (xX K r f1 a1 g1 (sI K sx.1 f1 a1 g1 ++ (iW K i1 ++ tt))) H := hP
  have hD : va_D A (xX K r f1 a1 g1 (sI K sx.1 f1 a1 g1 ++ (iW K i1 ++ tt))) := hD
  refine lv_aload_n hx hb dX11_image_50 rfl (lv_at hl 0 rfl) ?_
  refine lv_iconst (v := 0) hx hb dX11_image_51 (by decide) ?_
  refine kIG.callW (As := [.int 0]) (rest := []) ⟨hx, hb, hml, hown, hg⟩ (z_agree l r f1 a1 g1 (sI K sx.1 f1 a1 g1 ++ (iW K i1 ++ tt)) tt mem_rr hI1 hG1 0) (cwV 1 hg (kgV wt3_27 wt3_29 wp1_2 wt1_1 wt3_30) rfl rfl rfl (by decide +kernel) ⟨by decide, by decide⟩) hV hK hP hD hS hA 0 11 rfl rfl rfl hl.1 rfl (Nat.le_of_ble_eq_true rfl) dX11_image_52 ⟨by decide, by decide⟩ (fun v2 u2 H locs h2 hP hD hS => ?_)
  obtain ⟨f2, a2, g2⟩ := u2
  obtain ⟨-, hI2, hG2, hE2, hv2, hst⟩ := h2
  refine k_top (z := 0) hv2 ?_
  have hP : va_P D vwCl (xX K r f2 a2 g2 (sI K sx.1 f1 a1 g1 ++ (iW K i1 ++ tt))) H := hP
  have hD : va_D A (xX K r f2 a2 g2 (sI K sx.1 f1 a1 g1 ++ (iW K i1 ++ tt))) := hD
  have hF9 : ∀ j, j < 3040 → [16].contains j = false → f2 j = f0 j := fun j hj hc => (hE2.1 j hc).trans ((hE1.1 j (nc_lt (B := 3040) (by decide) hj)).trans (if_pos hj))
  have hA9 : ∀ s, s < 95 → a2 s = a0 s := fun s hs => (hE2.2.1 s rfl).trans ((hE1.2.1 s (nc_lt (B := 95) (by decide) hs)).trans (if_pos hs))
  have hG9 : ∀ s, s < 95 → g2.2 s = g.2 s := fun s hs => (hE2.2.2 s rfl).trans ((hE1.2.2 s (nc_lt (B := 95) (by decide) hs)).trans (if_pos hs))
  have hq92 : g2.2 92 = g.2 92 := hG9 92 (by decide)
  have hnF : nF [16] [94] [92] f0 a0 g0 f2 a2 g2.2 := ⟨hF9, fun s hs _ => hA9 s hs, fun s hs hc => (hG9 s hs).trans (hgF s hs hc)⟩
  have hs1 : iOK K tt (some (sx.1, f1, a1, g1)) := ⟨fI_at hI1.1 3040 (by decide) (by decide), fun i => hG1 109 i (Or.inr (Or.inr (Or.inr rfl)))⟩
  have hiN : iN (some (sx.1, f1, a1, g1)) k (g0 15) := ⟨(sx.1, f1, a1, g1), rfl, hp1, fun q hq => (hp2 q hq).trans (congrFun (hgF 15 (by decide) rfl) q)⟩
  have hR9 : ∀ R1, rfE (a0 94) R1 → rfE (a2 94) R1 := fun R1 hR => by rw [hA9 94 (by decide)]; exact hR
  exact kI_ret (v := 0) hx hb hr hlocks rfl hK hS dX11_image_55 ((f2, a2, g2), some (sx.1, f1, a1, g1), i1) hP hD ⟨hI2, hG2, hs1, ho, by rw [hq92]; exact hgk, by rw [hq92]; exact hgo, hnF, Or.inr (Or.inl ⟨rfl, ex, hiN, rfl, hR9⟩), hst⟩
set_option maxHeartbeats 4000000 in
set_option maxRecDepth 100000 in
theorem z_img_t1 {p : Program} {e : Env} {s : State} {m : MethodId} {below : List Frame} {meth : Method} {c : Code} {A : Nat → Prop} (l : Launch) {D : va_G} {K : Nat → ClassId} {r : Nat → Nat} {f0 : Nat → Int32} {a0 : Nat → Nat → Int32} (hx : p.tables.exec = Jvm.exec) (hb : c.code = cX11_image) (hr : meth.sig.returnType = some .int) (hml : c.maxLocals = 2) (hown : s.vm.findClass RX11 = some m.cls) (hlocks : meth.locks = false) (hK : va_K D vwCl (tysK K) s) (hA : ∀ q, s.heap.size ≤ q → A q) (hV : xE K A s s.heap) {g : xG} {g0 : Nat → Nat → Option Nat} {i0 i1 : Option sX} {tt : va_W} {sx : sX} {x : Int32} (ex : x = 1) (hg : ∀ w ∈ kG, w.before ([.ref (r 0), .int x] : List Value).toArray s = true) (hI : xI f0 a0) (hG : gOK K g.2 tt) (h0 : kb 0 (sx.2.1 3040) 10) (h1 : rOK K tt (sx.2.2.2.2 109)) (ho : iOK K tt i0) (hgk : g.2 92 1 = some (sx.1 95)) (hgo : g.2 92 0 = iA i0) (hgF : ∀ s, s < 95 → [92].contains s = false → g.2 s = g0 s) {k : Nat → Int32} (hVw : sV 32 2 f0 a0 k) (hkk : kK k) {H : Heap} {locs : List Loc} {ls : Array Slot} (hP : va_P D vwCl (xX K r f0 a0 g (sI K sx.1 sx.2.1 sx.2.2.1 sx.2.2.2 ++ (iW K i0 ++ tt))) H) (hD : va_D A (xX K r f0 a0 g (sI K sx.1 sx.2.1 sx.2.2.1 sx.2.2.2 ++ (iW K i0 ++ tt)))) (hS : va_S A s.heap H locs) (hl : lv_has ls 2 [(0, .ref (r 0)), (1, .int 1)]) : W p l e (rmD 8 21 197) s m ([.ref (r 0), .int x] : List Value).toArray below meth c H locs 21 197 (kQi D (tysK K) (fun v (u : xS × Option sX × Option sX) => xI u.1.1 u.1.2.1 ∧ gOK K u.1.2.2.2 tt ∧ iOK K tt u.2.1 ∧ iOK K tt u.2.2 ∧ u.1.2.2.2 92 0 = iA u.2.1 ∧ u.1.2.2.2 92 1 = iA u.2.2 ∧ nF [16] [94] [92] f0 a0 g0 u.1.1 u.1.2.1 u.1.2.2.2 ∧ imZ x v i0 i1 u.2.1 u.2.2 k (g0 15) (a0 94) (u.1.2.1 94) ∧ u.1.1 16 = v) (fun u => xX K r u.1.1 u.1.2.1 u.1.2.2 (iW K u.2.1 ++ (iW K u.2.2 ++ tt))) A below ([.ref (r 0), .int x] : List Value).toArray s 21 197) (F0 m 37 ls []) := by
  refine lv_aload_n hx hb dX11_image_37 rfl (lv_at hl 0 rfl) ?_
  refine va_get (D := D) (ci := 11) (v := .ref (r 92)) (C := RX11) (T := TX11) (N := 17) hx hb hg inC11 hown hK hP 0 rfl rfl 9 (by decide) (hg _ wt2_195) (fun _ h9 => h9) rfl dX11_image_38 ?_
  refine lv_iload_n hx hb dX11_image_41 rfl (lv_at hl 1 rfl) ?_
  refine va_aldq hx hb hK hP 92 4 rfl rfl (k_in (by decide +kernel)) dX11_image_42 ?_
  rw [cl_1]
  refine k_tops hgk ?_
  refine lv_aload_n hx hb dX11_image_43 rfl (lv_at hl 0 rfl) ?_
  refine va_get (D := D) (ci := 11) (v := .ref (r 1)) (C := RX11) (T := TX11) (N := 17) hx hb hg inC11 hown hK hP 0 rfl rfl 0 (by decide) (hg _ wt2_186) (fun _ h9 => h9) rfl dX11_image_44 ?_
  have hP : va_P D vwCl (xX K (mr r sx) (mf f0 sx) (ma a0 sx) (mg g sx) (sI K (mr r sx) (mf f0 sx) (ma a0 sx) (mg g sx) ++ (iW K i0 ++ tt))) H := hP
  have hD : va_D A (xX K (mr r sx) (mf f0 sx) (ma a0 sx) (mg g sx) (sI K (mr r sx) (mf f0 sx) (ma a0 sx) (mg g sx) ++ (iW K i0 ++ tt))) := hD
  refine kVG.callW (As := [.ref (r 1)]) (rest := []) ⟨hx, hb, hml, hown, hg⟩ (z_copyFromI l (mr r sx) (mf f0 sx) (ma a0 sx) (mg g sx) (iW K i0 ++ tt) tt mem_r (xI_m hI h0) (gOK_m hG h1) k hVw hkk) (cwV 1 hg (kgV wt5_141 wt4_80 wt4_81 wt1_2 wt4_82) rfl rfl rfl (by decide +kernel) ⟨by decide, by decide⟩) hV hK hP hD hS hA 95 7 rfl rfl rfl hl.1 rfl (Nat.le_of_ble_eq_true rfl) dX11_image_47 ⟨by decide, by decide⟩ (fun u1 H locs h1 hP hD hS => ?_)
  obtain ⟨f1, a1, g1⟩ := u1
  obtain ⟨hI1, hG1, hE1, hp1, hp2⟩ := h1
  have hP : va_P D vwCl (xX K r f1 a1 g1 (sI K sx.1 f1 a1 g1 ++ (iW K i0 ++ tt))) H := hP
  have hD : va_D A (xX K r f1 a1 g1 (sI K sx.1 f1 a1 g1 ++ (iW K i0 ++ tt))) := hD
  refine lv_aload_n hx hb dX11_image_50 rfl (lv_at hl 0 rfl) ?_
  refine lv_iconst (v := 0) hx hb dX11_image_51 (by decide) ?_
  refine kIG.callW (As := [.int 0]) (rest := []) ⟨hx, hb, hml, hown, hg⟩ (z_agree l r f1 a1 g1 (sI K sx.1 f1 a1 g1 ++ (iW K i0 ++ tt)) tt mem_rr hI1 hG1 0) (cwV 1 hg (kgV wt3_27 wt3_29 wp1_2 wt1_1 wt3_30) rfl rfl rfl (by decide +kernel) ⟨by decide, by decide⟩) hV hK hP hD hS hA 0 11 rfl rfl rfl hl.1 rfl (Nat.le_of_ble_eq_true rfl) dX11_image_52 ⟨by decide, by decide⟩ (fun v2 u2 H locs h2 hP hD hS => ?_)
  obtain ⟨f2, a2, g2⟩ := u2
  obtain ⟨-, hI2, hG2, hE2, hv2, hst⟩ := h2
  refine k_top (z := 0) hv2 ?_
  have hP : va_P D vwCl (xX K r f2 a2 g2 (sI K sx.1 f1 a1 g1 ++ (iW K i0 ++ tt))) H := hP
  have hD : va_D A (xX K r f2 a2 g2 (sI K sx.1 f1 a1 g1 ++ (iW K i0 ++ tt))) := hD
  have hF9 : ∀ j, j < 3040 → [16].contains j = false → f2 j = f0 j := fun j hj hc => (hE2.1 j hc).trans ((hE1.1 j (nc_lt (B := 3040) (by decide) hj)).trans (if_pos hj))
  have hA9 : ∀ s, s < 95 → a2 s = a0 s := fun s hs => (hE2.2.1 s rfl).trans ((hE1.2.1 s (nc_lt (B := 95) (by decide) hs)).trans (if_pos hs))
  have hG9 : ∀ s, s < 95 → g2.2 s = g.2 s := fun s hs => (hE2.2.2 s rfl).trans ((hE1.2.2 s (nc_lt (B := 95) (by decide) hs)).trans (if_pos hs))
  have hq92 : g2.2 92 = g.2 92 := hG9 92 (by decide)
  have hnF : nF [16] [94] [92] f0 a0 g0 f2 a2 g2.2 := ⟨hF9, fun s hs _ => hA9 s hs, fun s hs hc => (hG9 s hs).trans (hgF s hs hc)⟩
  have hs1 : iOK K tt (some (sx.1, f1, a1, g1)) := ⟨fI_at hI1.1 3040 (by decide) (by decide), fun i => hG1 109 i (Or.inr (Or.inr (Or.inr rfl)))⟩
  have hiN : iN (some (sx.1, f1, a1, g1)) k (g0 15) := ⟨(sx.1, f1, a1, g1), rfl, hp1, fun q hq => (hp2 q hq).trans (congrFun (hgF 15 (by decide) rfl) q)⟩
  have hR9 : ∀ R1, rfE (a0 94) R1 → rfE (a2 94) R1 := fun R1 hR => by rw [hA9 94 (by decide)]; exact hR
  have hpm : (xX K r f2 a2 g2 (sI K sx.1 f1 a1 g1 ++ (iW K i0 ++ tt))).Perm (xX K r f2 a2 g2 (iW K i0 ++ (sI K sx.1 f1 a1 g1 ++ tt))) := xX_pm (List.perm_append_comm_assoc _ _ _)
  exact kI_ret (v := 0) hx hb hr hlocks rfl hK hS dX11_image_55 ((f2, a2, g2), i0, some (sx.1, f1, a1, g1)) (va_P_pm hpm hP) (va_D_pm hpm hD) ⟨hI2, hG2, ho, hs1, by rw [hq92]; exact hgo, by rw [hq92]; exact hgk, hnF, Or.inr (Or.inr ⟨rfl, ex, rfl, hiN, hR9⟩), hst⟩
set_option maxHeartbeats 4000000 in
set_option maxRecDepth 100000 in
theorem z_image (l : Launch) {D : va_G} {K : Nat → ClassId} (r : Nat → Nat) (f0 : Nat → Int32) (a0 : Nat → Nat → Int32) (g : xG) (i0 i1 : Option sX) (tt : va_W) (hI : xI f0 a0) (hG : gOK K g.2 tt) (h0 : iOK K tt i0) (h1 : iOK K tt i1) (hg0 : g.2 92 0 = iA i0) (hg1 : g.2 92 1 = iA i1) (x : Int32) {k : Nat → Int32} (hVw : sV 32 2 f0 a0 k) (hkk : kK k) : kIG l yX11_image (Cond.code yX11_image cX11_image 2 (some .int) :: kG) (rmD 8 21 197) D K [.ref (r 0), .int x] (xX K r f0 a0 g (iW K i0 ++ (iW K i1 ++ tt))) (fun v (u : xS × Option sX × Option sX) => xI u.1.1 u.1.2.1 ∧ gOK K u.1.2.2.2 tt ∧ iOK K tt u.2.1 ∧ iOK K tt u.2.2 ∧ u.1.2.2.2 92 0 = iA u.2.1 ∧ u.1.2.2.2 92 1 = iA u.2.2 ∧ nF [16] [94] [92] f0 a0 g.2 u.1.1 u.1.2.1 u.1.2.2.2 ∧ imZ x v i0 i1 u.2.1 u.2.2 k (g.2 15) (a0 94) (u.1.2.1 94) ∧ u.1.1 16 = v) (fun u => xX K r u.1.1 u.1.2.1 u.1.2.2 (iW K u.2.1 ++ (iW K u.2.2 ++ tt))) 21 197 := by
  refine kIE.of (cc := cX11_image) (maxL := 2) (ret := (some .int)) (by decide) rfl (Nat.le_of_ble_eq_true rfl) ?_
  intro p e s m below meth c A hx hb hr hml hown hts hlocks hnm hK hP hD hS hA hV ls hl
  have hg : ∀ w ∈ kG, w.before ([.ref (r 0), .int x] : List Value).toArray s = true := fun w h => hts w (List.mem_cons_of_mem _ h)
  have hown : s.vm.findClass RX11 = some m.cls := hown
  have hl : lv_has ls 2 [(0, .ref (r 0)), (1, .int x)] := hl
  by_cases q0 : x = 0
  · have hl : lv_has ls 2 [(0, .ref (r 0)), (1, .int 0)] := q0 ▸ hl
    refine lv_iload_n hx hb dX11_image_0 rfl (lv_at hl 1 rfl) ?_
    refine lv_if_lt (tgt := 9) hx hb dX11_image_1 (by decide) (fun c1 => absurd c1 (by decide +kernel)) (fun c1 => ?_)
    refine lv_iload_n hx hb dX11_image_4 rfl (lv_at hl 1 rfl) ?_
    refine lv_iconst (v := 2) hx hb dX11_image_5 (by decide) ?_
    refine lv_icmp_lt (tgt := 15) hx hb dX11_image_6 (by decide) (fun c2 => ?_) (fun c2 => absurd (by decide +kernel) c2)
    refine lv_aload_n hx hb dX11_image_15 rfl (lv_at hl 0 rfl) ?_
    refine va_get (D := D) (ci := 11) (v := .ref (r 92)) (C := RX11) (T := TX11) (N := 17) hx hb hg inC11 hown hK hP 0 rfl rfl 9 (by decide) (hg _ wt2_195) (fun _ h9 => h9) rfl dX11_image_16 ?_
    refine lv_iload_n hx hb dX11_image_19 rfl (lv_at hl 1 rfl) ?_
    refine va_aldq hx hb hK hP 92 4 rfl rfl (k_in (by decide +kernel)) dX11_image_20 ?_
    rw [cl_0]
    rcases opt_c i0 with hi | ⟨sx, hi⟩
    · have hgk : g.2 92 0 = none := by rw [hg0, hi]; rfl
      refine k_topn hgk ?_
      refine lv_ifnonnullN hx hb dX11_image_21 ?_
      have hP : va_P D vwCl (xX K r f0 a0 g (iW K i1 ++ tt)) _ := (by rw [hi] at hP; exact hP)
      have hD : va_D A (xX K r f0 a0 g (iW K i1 ++ tt)) := (by rw [hi] at hD; exact hD)
      refine lv_aload_n hx hb dX11_image_24 rfl (lv_at hl 0 rfl) ?_
      refine va_get (D := D) (ci := 11) (v := .ref (r 92)) (C := RX11) (T := TX11) (N := 17) hx hb hg inC11 hown hK hP 0 rfl rfl 9 (by decide) (hg _ wt2_195) (fun _ h9 => h9) rfl dX11_image_25 ?_
      refine lv_iload_n hx hb dX11_image_28 rfl (lv_at hl 1 rfl) ?_
      refine va_new (ci := 7) (fs := [.int 0, .null, .null, .null, .null, .null, .int 0, .null, .null, .null, .null, .null, .int 0, .null, .null, .null, .null, .int 0, .int 0, .null]) (C := RX7) (T := TX7) (N := 20) hx hb hg inC7 tyX7 tyX7_ok hown (hg _ wt1_30) (hg _ wt1_31) (hg _ wt1_2) hK hP hD hS hA rfl (fun j hj => by rcases (show j = 0 ∨ j = 1 ∨ j = 2 ∨ j = 3 ∨ j = 4 ∨ j = 5 ∨ j = 6 ∨ j = 7 ∨ j = 8 ∨ j = 9 ∨ j = 10 ∨ j = 11 ∨ j = 12 ∨ j = 13 ∨ j = 14 ∨ j = 15 ∨ j = 16 ∨ j = 17 ∨ j = 18 ∨ j = 19 by omega) with rfl | rfl | rfl | rfl | rfl | rfl | rfl | rfl | rfl | rfl | rfl | rfl | rfl | rfl | rfl | rfl | rfl | rfl | rfl | rfl <;> rfl) (by decide) (by decide) dX11_image_29 (fun q H hP hD hS => ?_)
      refine lv_dup hx hb dX11_image_32 rfl ?_
      refine kVE.callIN (ws := xX K r f0 a0 g (iW K i1 ++ tt)) (As := []) (rest := [.ref q, .int 0, .ref (r 92)]) ⟨hx, hb, hml, hown, hg⟩ (k_X7_init l q) ⟨va_cnB (host := RX11) 0 hg (kgC wt1_34) rfl rfl rfl (hV.1.1 (RX11, 9, yX7_init) (by simp [kNM])) (hg _ wt1_2) (by decide +kernel) ⟨by decide, by decide⟩, rfl, hg _ wt1_33⟩ hV.1 hK hP hD hS hA rfl hl.1 rfl (Nat.le_of_ble_eq_true rfl) dX11_image_33 ⟨by decide, by decide⟩ (fun u H locs _ hP hD hS => ?_)
      have hP : va_P D vwCl (xX K r f0 a0 g (sI K (fun k => if k = 95 then q else u (k - 95)) (fun j => if j = 3058 then (-1) else 0) (fun k => if k = 105 then tf0 else fun _ => 0) ((fun _ _ => 0, fun _ _ => none) : xG) ++ (iW K i1 ++ tt))) H := va_P_pm xX_end hP
      have hD : va_D A (xX K r f0 a0 g (sI K (fun k => if k = 95 then q else u (k - 95)) (fun j => if j = 3058 then (-1) else 0) (fun k => if k = 105 then tf0 else fun _ => 0) ((fun _ _ => 0, fun _ _ => none) : xG) ++ (iW K i1 ++ tt))) := va_D_pm xX_end hD
      refine va_astq hx hb hK hP hD hS 92 4 95 7 rfl rfl rfl rfl (k_in (by decide +kernel)) dX11_image_36 (fun H locs hP hD hS => ?_)
      rw [cl_0] at hP hD
      refine W.widen (k := 21) (n := 197) (by decide) (by decide) ?_
      exact z_img_t0 l hx hb hr hml hown hlocks hK hA hV (g := (g.1, va_up g.2 92 (va_up (g.2 92) 0 (some q)))) (g0 := g.2) (i0 := i0) (i1 := i1) (sx := ((fun k => if k = 95 then q else u (k - 95), fun j => if j = 3058 then (-1) else 0, fun k => if k = 105 then tf0 else fun _ => 0, (fun _ _ => 0, fun _ _ => none)) : sX)) q0 hg hI (gOK_o hG 92 _ (by decide)) (show kb 0 (0 : Int32) 10 from ⟨by decide +kernel, by decide +kernel⟩) (fun _ => Or.inl rfl) h1 rfl (hg1) (fun s _ hc => up_n9 (fun e => by rw [e] at hc; exact absurd hc (by decide))) hVw hkk hP hD hS hl
    · have hgk : g.2 92 0 = some (sx.1 95) := by rw [hg0, hi]; rfl
      refine k_tops hgk ?_
      refine lv_ifnonnull (tgt := 37) hx hb dX11_image_21 (by decide) ?_
      have hP : va_P D vwCl (xX K r f0 a0 g (sI K sx.1 sx.2.1 sx.2.2.1 sx.2.2.2 ++ (iW K i1 ++ tt))) _ := (by rw [hi] at hP; exact hP)
      have hD : va_D A (xX K r f0 a0 g (sI K sx.1 sx.2.1 sx.2.2.1 sx.2.2.2 ++ (iW K i1 ++ tt))) := (by rw [hi] at hD; exact hD)
      have hs : iOK K tt (some sx) := hi ▸ h0
      refine W.widen (k := 21) (n := 197) (by decide) (by decide) ?_
      exact z_img_t0 l hx hb hr hml hown hlocks hK hA hV (g := g) (g0 := g.2) (i0 := i0) (i1 := i1) (sx := sx) q0 hg hI hG hs.1 hs.2 h1 hgk hg1 (fun _ _ _ => rfl) hVw hkk hP hD hS hl
  by_cases q1 : x = 1
  · have hl : lv_has ls 2 [(0, .ref (r 0)), (1, .int 1)] := q1 ▸ hl
    refine lv_iload_n hx hb dX11_image_0 rfl (lv_at hl 1 rfl) ?_
    refine lv_if_lt (tgt := 9) hx hb dX11_image_1 (by decide) (fun c1 => absurd c1 (by decide +kernel)) (fun c1 => ?_)
    refine lv_iload_n hx hb dX11_image_4 rfl (lv_at hl 1 rfl) ?_
    refine lv_iconst (v := 2) hx hb dX11_image_5 (by decide) ?_
    refine lv_icmp_lt (tgt := 15) hx hb dX11_image_6 (by decide) (fun c2 => ?_) (fun c2 => absurd (by decide +kernel) c2)
    refine lv_aload_n hx hb dX11_image_15 rfl (lv_at hl 0 rfl) ?_
    refine va_get (D := D) (ci := 11) (v := .ref (r 92)) (C := RX11) (T := TX11) (N := 17) hx hb hg inC11 hown hK hP 0 rfl rfl 9 (by decide) (hg _ wt2_195) (fun _ h9 => h9) rfl dX11_image_16 ?_
    refine lv_iload_n hx hb dX11_image_19 rfl (lv_at hl 1 rfl) ?_
    refine va_aldq hx hb hK hP 92 4 rfl rfl (k_in (by decide +kernel)) dX11_image_20 ?_
    rw [cl_1]
    rcases opt_c i1 with hi | ⟨sx, hi⟩
    · have hgk : g.2 92 1 = none := by rw [hg1, hi]; rfl
      refine k_topn hgk ?_
      refine lv_ifnonnullN hx hb dX11_image_21 ?_
      have hP : va_P D vwCl (xX K r f0 a0 g (iW K i0 ++ tt)) _ := (by rw [hi] at hP; exact hP)
      have hD : va_D A (xX K r f0 a0 g (iW K i0 ++ tt)) := (by rw [hi] at hD; exact hD)
      refine lv_aload_n hx hb dX11_image_24 rfl (lv_at hl 0 rfl) ?_
      refine va_get (D := D) (ci := 11) (v := .ref (r 92)) (C := RX11) (T := TX11) (N := 17) hx hb hg inC11 hown hK hP 0 rfl rfl 9 (by decide) (hg _ wt2_195) (fun _ h9 => h9) rfl dX11_image_25 ?_
      refine lv_iload_n hx hb dX11_image_28 rfl (lv_at hl 1 rfl) ?_
      refine va_new (ci := 7) (fs := [.int 0, .null, .null, .null, .null, .null, .int 0, .null, .null, .null, .null, .null, .int 0, .null, .null, .null, .null, .int 0, .int 0, .null]) (C := RX7) (T := TX7) (N := 20) hx hb hg inC7 tyX7 tyX7_ok hown (hg _ wt1_30) (hg _ wt1_31) (hg _ wt1_2) hK hP hD hS hA rfl (fun j hj => by rcases (show j = 0 ∨ j = 1 ∨ j = 2 ∨ j = 3 ∨ j = 4 ∨ j = 5 ∨ j = 6 ∨ j = 7 ∨ j = 8 ∨ j = 9 ∨ j = 10 ∨ j = 11 ∨ j = 12 ∨ j = 13 ∨ j = 14 ∨ j = 15 ∨ j = 16 ∨ j = 17 ∨ j = 18 ∨ j = 19 by omega) with rfl | rfl | rfl | rfl | rfl | rfl | rfl | rfl | rfl | rfl | rfl | rfl | rfl | rfl | rfl | rfl | rfl | rfl | rfl | rfl <;> rfl) (by decide) (by decide) dX11_image_29 (fun q H hP hD hS => ?_)
      refine lv_dup hx hb dX11_image_32 rfl ?_
      refine kVE.callIN (ws := xX K r f0 a0 g (iW K i0 ++ tt)) (As := []) (rest := [.ref q, .int 1, .ref (r 92)]) ⟨hx, hb, hml, hown, hg⟩ (k_X7_init l q) ⟨va_cnB (host := RX11) 0 hg (kgC wt1_34) rfl rfl rfl (hV.1.1 (RX11, 9, yX7_init) (by simp [kNM])) (hg _ wt1_2) (by decide +kernel) ⟨by decide, by decide⟩, rfl, hg _ wt1_33⟩ hV.1 hK hP hD hS hA rfl hl.1 rfl (Nat.le_of_ble_eq_true rfl) dX11_image_33 ⟨by decide, by decide⟩ (fun u H locs _ hP hD hS => ?_)
      have hP : va_P D vwCl (xX K r f0 a0 g (sI K (fun k => if k = 95 then q else u (k - 95)) (fun j => if j = 3058 then (-1) else 0) (fun k => if k = 105 then tf0 else fun _ => 0) ((fun _ _ => 0, fun _ _ => none) : xG) ++ (iW K i0 ++ tt))) H := va_P_pm xX_end hP
      have hD : va_D A (xX K r f0 a0 g (sI K (fun k => if k = 95 then q else u (k - 95)) (fun j => if j = 3058 then (-1) else 0) (fun k => if k = 105 then tf0 else fun _ => 0) ((fun _ _ => 0, fun _ _ => none) : xG) ++ (iW K i0 ++ tt))) := va_D_pm xX_end hD
      refine va_astq hx hb hK hP hD hS 92 4 95 7 rfl rfl rfl rfl (k_in (by decide +kernel)) dX11_image_36 (fun H locs hP hD hS => ?_)
      rw [cl_1] at hP hD
      refine W.widen (k := 21) (n := 197) (by decide) (by decide) ?_
      exact z_img_t1 l hx hb hr hml hown hlocks hK hA hV (g := (g.1, va_up g.2 92 (va_up (g.2 92) 1 (some q)))) (g0 := g.2) (i0 := i0) (i1 := i1) (sx := ((fun k => if k = 95 then q else u (k - 95), fun j => if j = 3058 then (-1) else 0, fun k => if k = 105 then tf0 else fun _ => 0, (fun _ _ => 0, fun _ _ => none)) : sX)) q1 hg hI (gOK_o hG 92 _ (by decide)) (show kb 0 (0 : Int32) 10 from ⟨by decide +kernel, by decide +kernel⟩) (fun _ => Or.inl rfl) h0 rfl (hg0) (fun s _ hc => up_n9 (fun e => by rw [e] at hc; exact absurd hc (by decide))) hVw hkk hP hD hS hl
    · have hgk : g.2 92 1 = some (sx.1 95) := by rw [hg1, hi]; rfl
      refine k_tops hgk ?_
      refine lv_ifnonnull (tgt := 37) hx hb dX11_image_21 (by decide) ?_
      have hP : va_P D vwCl (xX K r f0 a0 g (sI K sx.1 sx.2.1 sx.2.2.1 sx.2.2.2 ++ (iW K i0 ++ tt))) _ := va_P_pm (xX_pm (List.perm_append_comm_assoc _ _ _)) (by rw [hi] at hP; exact hP)
      have hD : va_D A (xX K r f0 a0 g (sI K sx.1 sx.2.1 sx.2.2.1 sx.2.2.2 ++ (iW K i0 ++ tt))) := va_D_pm (xX_pm (List.perm_append_comm_assoc _ _ _)) (by rw [hi] at hD; exact hD)
      have hs : iOK K tt (some sx) := hi ▸ h1
      refine W.widen (k := 21) (n := 197) (by decide) (by decide) ?_
      exact z_img_t1 l hx hb hr hml hown hlocks hK hA hV (g := g) (g0 := g.2) (i0 := i0) (i1 := i1) (sx := sx) q1 hg hI hG hs.1 hs.2 h0 hgk hg0 (fun _ _ _ => rfl) hVw hkk hP hD hS hl
  have fin : ∀ (H : Heap) (locs : List Loc) (ls : Array Slot), va_P D vwCl (xX K r f0 a0 g (iW K i0 ++ (iW K i1 ++ tt))) H → va_D A (xX K r f0 a0 g (iW K i0 ++ (iW K i1 ++ tt))) → va_S A s.heap H locs → lv_has ls 2 [(0, .ref (r 0)), (1, .int x)] → W p l e (rmD 8 21 197) s m ([.ref (r 0), .int x] : List Value).toArray below meth c H locs 0 0 (kQi D (tysK K) (fun v (u : xS × Option sX × Option sX) => xI u.1.1 u.1.2.1 ∧ gOK K u.1.2.2.2 tt ∧ iOK K tt u.2.1 ∧ iOK K tt u.2.2 ∧ u.1.2.2.2 92 0 = iA u.2.1 ∧ u.1.2.2.2 92 1 = iA u.2.2 ∧ nF [16] [94] [92] f0 a0 g.2 u.1.1 u.1.2.1 u.1.2.2.2 ∧ imZ x v i0 i1 u.2.1 u.2.2 k (g.2 15) (a0 94) (u.1.2.1 94) ∧ u.1.1 16 = v) (fun u => xX K r u.1.1 u.1.2.1 u.1.2.2 (iW K u.2.1 ++ (iW K u.2.2 ++ tt))) A below ([.ref (r 0), .int x] : List Value).toArray s 21 197) (F0 m 9 ls []) := by
    intro H locs ls hP hD hS hl
    refine lv_aload_n hx hb dX11_image_9 rfl (lv_at hl 0 rfl) ?_
    refine lv_iconst (v := (-1)) hx hb dX11_image_10 (by decide) ?_
    refine kIG.callW (As := [.int (-1)]) (rest := []) ⟨hx, hb, hml, hown, hg⟩ (z_refuse l r f0 a0 g (iW K i0 ++ (iW K i1 ++ tt)) tt mem_rr hI hG (-1) ⟨by decide +kernel, by decide +kernel⟩ (by decide +kernel)) (cwV 1 hg (kgV wt3_7 wt3_9 wp1_0 wt1_1 wt3_10) rfl rfl rfl (by decide +kernel) ⟨by decide, by decide⟩) hV hK hP hD hS hA 0 11 rfl rfl rfl hl.1 rfl (Nat.le_of_ble_eq_true rfl) dX11_image_11 ⟨by decide, by decide⟩ (fun v2 u2 H locs h2 hP hD hS => ?_)
    obtain ⟨f2, a2, g2⟩ := u2
    obtain ⟨-, hI2, hG2, hE2, hv2, hst, hrf⟩ := h2
    refine k_top (z := (-1)) hv2 ?_
    refine W.widen (k := 21) (n := 197) (by decide) (by decide) ?_
    have hq92 : g2.2 92 = g.2 92 := hE2.2.2 92 rfl
    have hnF : nF [16] [94] [] f0 a0 g.2 f2 a2 g2.2 := ⟨fun j _ hc => hE2.1 j hc, fun s _ hc => hE2.2.1 s hc, fun s _ _ => hE2.2.2 s rfl⟩
    exact kI_ret (v := (-1)) hx hb hr hlocks rfl hK hS dX11_image_14 ((f2, a2, g2), i0, i1) hP hD ⟨hI2, hG2, h0, h1, by rw [hq92]; exact hg0, by rw [hq92]; exact hg1, nF_w hnF, Or.inl ⟨rfl, no01 q0 q1, rfl, rfl, hrf⟩, hst⟩
  refine lv_iload_n hx hb dX11_image_0 rfl (lv_at hl 1 rfl) ?_
  refine lv_if_lt (tgt := 9) hx hb dX11_image_1 (by decide) (fun c1 => fin _ _ _ hP hD hS hl) (fun c1 => ?_)
  refine lv_iload_n hx hb dX11_image_4 rfl (lv_at hl 1 rfl) ?_
  refine lv_iconst (v := 2) hx hb dX11_image_5 (by decide) ?_
  refine lv_icmp_lt (tgt := 15) hx hb dX11_image_6 (by decide) (fun c2 => absurd c2 (ge2 q0 q1 c1)) (fun c2 => fin _ _ _ hP hD hS hl)
set_option maxHeartbeats 4000000 in
set_option maxRecDepth 100000 in
theorem z_bck_t0 {p : Program} {e : Env} {s : State} {m : MethodId} {below : List Frame} {meth : Method} {c : Code} {A : Nat → Prop} (l : Launch) {D : va_G} {K : Nat → ClassId} {r : Nat → Nat} {f0 : Nat → Int32} {a0 : Nat → Nat → Int32} (hx : p.tables.exec = Jvm.exec) (hb : c.code = cX11_back) (hr : meth.sig.returnType = some .int) (hml : c.maxLocals = 2) (hown : s.vm.findClass RX11 = some m.cls) (hlocks : meth.locks = false) (hK : va_K D vwCl (tysK K) s) (hA : ∀ q, s.heap.size ≤ q → A q) (hV : xE K A s s.heap) {g : xG} {g0 : Nat → Nat → Option Nat} (e0 : g0 = g.2) {i0 i1 : Option sX} {tt : va_W} {sx : sX} {x : Int32} (ex : x = 0) (hg : ∀ w ∈ kG, w.before ([.ref (r 0), .int x] : List Value).toArray s = true) (hI : xI f0 a0) (hG : gOK K g.2 tt) (hi : i0 = some sx) (h0 : kb 0 (sx.2.1 3040) 10) (h1 : rOK K tt (sx.2.2.2.2 109)) (ho : iOK K tt i1) (hgk : g.2 92 0 = some (sx.1 95)) (hgo : g.2 92 1 = iA i1) {k0 k1 : Nat → Int32} (hVi0 : ∀ s, i0 = some s → sV 3040 96 s.2.1 s.2.2.1 k0 ∧ kK k0) (hVi1 : ∀ s, i1 = some s → sV 3040 96 s.2.1 s.2.2.1 k1 ∧ kK k1) {H : Heap} {locs : List Loc} {ls : Array Slot} (hP : va_P D vwCl (xX K r f0 a0 g (sI K sx.1 sx.2.1 sx.2.2.1 sx.2.2.2 ++ (iW K i1 ++ tt))) H) (hD : va_D A (xX K r f0 a0 g (sI K sx.1 sx.2.1 sx.2.2.1 sx.2.2.2 ++ (iW K i1 ++ tt)))) (hS : va_S A s.heap H locs) (hl : lv_has ls 2 [(0, .ref (r 0)), (1, .int 0)]) : W p l e (rmD 8 21 197) s m ([.ref (r 0), .int x] : List Value).toArray below meth c H locs 21 197 (kQi D (tysK K) (fun v (u : xS × Option sX × Option sX) => xI u.1.1 u.1.2.1 ∧ gOK K u.1.2.2.2 tt ∧ iOK K tt u.2.1 ∧ iOK K tt u.2.2 ∧ u.1.2.2.2 92 0 = iA u.2.1 ∧ u.1.2.2.2 92 1 = iA u.2.2 ∧ iQ i0 u.2.1 ∧ iQ i1 u.2.2 ∧ bkZ x v i0 i1 k0 k1 f0 a0 g0 u.1.1 u.1.2.1 u.1.2.2.2 ∧ u.1.1 16 = v) (fun u => xX K r u.1.1 u.1.2.1 u.1.2.2 (iW K u.2.1 ++ (iW K u.2.2 ++ tt))) A below ([.ref (r 0), .int x] : List Value).toArray s 21 197) (F0 m 31 ls []) := by
  refine lv_aload_n hx hb dX11_back_31 rfl (lv_at hl 0 rfl) ?_
  refine va_get (D := D) (ci := 11) (v := .ref (r 1)) (C := RX11) (T := TX11) (N := 17) hx hb hg inC11 hown hK hP 0 rfl rfl 0 (by decide) (hg _ wt2_186) (fun _ h9 => h9) rfl dX11_back_32 ?_
  refine lv_aload_n hx hb dX11_back_35 rfl (lv_at hl 0 rfl) ?_
  refine va_get (D := D) (ci := 11) (v := .ref (r 92)) (C := RX11) (T := TX11) (N := 17) hx hb hg inC11 hown hK hP 0 rfl rfl 9 (by decide) (hg _ wt2_195) (fun _ h9 => h9) rfl dX11_back_36 ?_
  refine lv_iload_n hx hb dX11_back_39 rfl (lv_at hl 1 rfl) ?_
  refine va_aldq hx hb hK hP 92 4 rfl rfl (k_in (by decide +kernel)) dX11_back_40 ?_
  rw [cl_0]
  refine k_tops hgk ?_
  have hP : va_P D vwCl (xX K (mr r sx) (mf f0 sx) (ma a0 sx) (mg g sx) (sI K (mr r sx) (mf f0 sx) (ma a0 sx) (mg g sx) ++ (iW K i1 ++ tt))) H := hP
  have hD : va_D A (xX K (mr r sx) (mf f0 sx) (ma a0 sx) (mg g sx) (sI K (mr r sx) (mf f0 sx) (ma a0 sx) (mg g sx) ++ (iW K i1 ++ tt))) := hD
  subst e0
  have hVm := hVi0 sx hi
  refine kVG.callW (As := [.ref (sx.1 95)]) (rest := []) ⟨hx, hb, hml, hown, hg⟩ (z_copyFromB l (mr r sx) (mf f0 sx) (ma a0 sx) (mg g sx) (iW K i1 ++ tt) tt mem_r (xI_m hI h0) (gOK_m hG h1) k0 hVm.1 hVm.2) (cwV 1 hg (kgV wt5_141 wt4_80 wt4_81 wt1_2 wt4_82) rfl rfl rfl (by decide +kernel) ⟨by decide, by decide⟩) hV hK hP hD hS hA 1 7 rfl rfl rfl hl.1 rfl (Nat.le_of_ble_eq_true rfl) dX11_back_41 ⟨by decide, by decide⟩ (fun u1 H locs h1 hP hD hS => ?_)
  obtain ⟨f1, a1, g1⟩ := u1
  obtain ⟨hI1, hG1, hE1, hp1, hp2⟩ := h1
  have hP : va_P D vwCl (xX K r f1 a1 g1 (sI K sx.1 f1 a1 g1 ++ (iW K i1 ++ tt))) H := hP
  have hD : va_D A (xX K r f1 a1 g1 (sI K sx.1 f1 a1 g1 ++ (iW K i1 ++ tt))) := hD
  refine lv_aload_n hx hb dX11_back_44 rfl (lv_at hl 0 rfl) ?_
  refine va_get (D := D) (ci := 11) (v := .ref (r 22)) (C := RX11) (T := TX11) (N := 17) hx hb hg inC11 hown hK hP 0 rfl rfl 1 (by decide) (hg _ wt2_187) (fun _ h9 => h9) rfl dX11_back_45 ?_
  refine kVG.callW (As := []) (rest := []) ⟨hx, hb, hml, hown, hg⟩ (z_pclear l r f1 a1 g1 (sI K sx.1 f1 a1 g1 ++ (iW K i1 ++ tt)) tt mem_rr hI1 hG1) (cwV 0 hg (kgV wt3_11 wt3_12 wt3_13 wt1_4 wt3_14) rfl rfl rfl (by decide +kernel) ⟨by decide, by decide⟩) hV hK hP hD hS hA 22 2 rfl rfl rfl hl.1 rfl (Nat.le_of_ble_eq_true rfl) dX11_back_48 ⟨by decide, by decide⟩ (fun u2 H locs h2 hP hD hS => ?_)
  obtain ⟨f2, a2, g2⟩ := u2
  obtain ⟨hI2, hG2, hE2, hc1, hc2⟩ := h2
  have hP : va_P D vwCl (xX K r f2 a2 g2 (sI K sx.1 f1 a1 g1 ++ (iW K i1 ++ tt))) H := hP
  have hD : va_D A (xX K r f2 a2 g2 (sI K sx.1 f1 a1 g1 ++ (iW K i1 ++ tt))) := hD
  refine lv_aload_n hx hb dX11_back_51 rfl (lv_at hl 0 rfl) ?_
  refine lv_iconst (v := 0) hx hb dX11_back_52 (by decide) ?_
  refine kIG.callW (As := [.int 0]) (rest := []) ⟨hx, hb, hml, hown, hg⟩ (z_agreeChanged l r f2 a2 g2 (sI K sx.1 f1 a1 g1 ++ (iW K i1 ++ tt)) tt mem_rr hI2 hG2 0) (cwV 1 hg (kgV wt3_15 wt3_17 wp1_1 wt1_1 wt3_18) rfl rfl rfl (by decide +kernel) ⟨by decide, by decide⟩) hV hK hP hD hS hA 0 11 rfl rfl rfl hl.1 rfl (Nat.le_of_ble_eq_true rfl) dX11_back_53 ⟨by decide, by decide⟩ (fun v3 u3 H locs h3 hP hD hS => ?_)
  obtain ⟨f3, a3, g3⟩ := u3
  obtain ⟨-, hI3, hG3, hE3, hv3, hst⟩ := h3
  refine k_top (z := 0) hv3 ?_
  have hP : va_P D vwCl (xX K r f3 a3 g3 (sI K sx.1 f1 a1 g1 ++ (iW K i1 ++ tt))) H := hP
  have hD : va_D A (xX K r f3 a3 g3 (sI K sx.1 f1 a1 g1 ++ (iW K i1 ++ tt))) := hD
  have hF9 : ∀ j, j < 3040 → bkL.contains j = false → f3 j = f0 j := fun j hj hc => (hE3.1 j (nc_sub (by decide) hc)).trans ((hE2.1 j (nc_sub (by decide) hc)).trans ((hE1.1 j (nc_sub (by decide) hc)).trans (if_pos hj)))
  have hA9 : ∀ s, s < 95 → bkR.contains s = false → a3 s = a0 s := fun s hs hc => (hE3.2.1 s (nc_sub (by decide) hc)).trans ((hE2.2.1 s rfl).trans ((hE1.2.1 s (nc_sub (by decide) hc)).trans (if_pos hs)))
  have hG9 : ∀ s, s < 95 → [15].contains s = false → g3.2 s = g.2 s := fun s hs hc => (hE3.2.2 s rfl).trans ((hE2.2.2 s rfl).trans ((hE1.2.2 s hc).trans (if_pos hs)))
  have hq92 : g3.2 92 = g.2 92 := hG9 92 (by decide) rfl
  have hs1 : iOK K tt (some (sx.1, f1, a1, g1)) := ⟨fI_at hI1.1 3040 (by decide) (by decide), fun i => hG1 109 i (Or.inr (Or.inr (Or.inr rfl)))⟩
  have his : iQ i0 (some (sx.1, f1, a1, g1)) := by rw [hi]; exact ⟨fun j hj => (hE1.1 j (nc_ge (B := 51) (by decide) (by omega))).trans (if_neg (by omega)), fun p hp => (hE1.2.1 p (nc_ge (B := 15) (by decide) (by omega))).trans (if_neg (by omega)), fun p hp => (hE1.2.2 p (nc_ge (B := 16) (by decide) (by omega))).trans (if_neg (by omega))⟩
  have hsv : sV 32 2 f3 a3 k0 := sV_cg hp1 ((hE3.1 32 rfl).trans (hE2.1 32 rfl)) ((hE3.1 38 rfl).trans (hE2.1 38 rfl)) ((hE3.1 44 rfl).trans (hE2.1 44 rfl)) ((hE3.1 49 rfl).trans (hE2.1 49 rfl)) ((hE3.1 50 rfl).trans (hE2.1 50 rfl)) (fun j hj => (hE3.2.1 (2 + j) (nc_lt (B := 81) (by decide) (by omega))).trans (hE2.2.1 (2 + j) rfl))
  have hlw : ∀ q, q < 6 → g3.2 15 q = sx.2.2.2.2 109 q := fun q hq => (congrFun ((hE3.2.2 15 rfl).trans (hE2.2.2 15 rfl)) q).trans (hp2 q hq)
  have hbk : bkZ x 0 i0 i1 k0 k1 f0 a0 g.2 f3 a3 g3.2 := Or.inr (Or.inr ⟨rfl, ⟨hF9, hA9, hG9⟩, (hE3.1 704 rfl).trans hc1, (hE3.1 705 rfl).trans hc2, Or.inl ⟨ex, hsv, sx, hi, hlw⟩⟩)
  exact kI_ret (v := 0) hx hb hr hlocks rfl hK hS dX11_back_56 ((f3, a3, g3), some (sx.1, f1, a1, g1), i1) hP hD ⟨hI3, hG3, hs1, ho, by rw [hq92]; exact hgk, by rw [hq92]; exact hgo, his, iQ_rf _, hbk, hst⟩
set_option maxHeartbeats 4000000 in
set_option maxRecDepth 100000 in
theorem z_bck_t1 {p : Program} {e : Env} {s : State} {m : MethodId} {below : List Frame} {meth : Method} {c : Code} {A : Nat → Prop} (l : Launch) {D : va_G} {K : Nat → ClassId} {r : Nat → Nat} {f0 : Nat → Int32} {a0 : Nat → Nat → Int32} (hx : p.tables.exec = Jvm.exec) (hb : c.code = cX11_back) (hr : meth.sig.returnType = some .int) (hml : c.maxLocals = 2) (hown : s.vm.findClass RX11 = some m.cls) (hlocks : meth.locks = false) (hK : va_K D vwCl (tysK K) s) (hA : ∀ q, s.heap.size ≤ q → A q) (hV : xE K A s s.heap) {g : xG} {g0 : Nat → Nat → Option Nat} (e0 : g0 = g.2) {i0 i1 : Option sX} {tt : va_W} {sx : sX} {x : Int32} (ex : x = 1) (hg : ∀ w ∈ kG, w.before ([.ref (r 0), .int x] : List Value).toArray s = true) (hI : xI f0 a0) (hG : gOK K g.2 tt) (hi : i1 = some sx) (h0 : kb 0 (sx.2.1 3040) 10) (h1 : rOK K tt (sx.2.2.2.2 109)) (ho : iOK K tt i0) (hgk : g.2 92 1 = some (sx.1 95)) (hgo : g.2 92 0 = iA i0) {k0 k1 : Nat → Int32} (hVi0 : ∀ s, i0 = some s → sV 3040 96 s.2.1 s.2.2.1 k0 ∧ kK k0) (hVi1 : ∀ s, i1 = some s → sV 3040 96 s.2.1 s.2.2.1 k1 ∧ kK k1) {H : Heap} {locs : List Loc} {ls : Array Slot} (hP : va_P D vwCl (xX K r f0 a0 g (sI K sx.1 sx.2.1 sx.2.2.1 sx.2.2.2 ++ (iW K i0 ++ tt))) H) (hD : va_D A (xX K r f0 a0 g (sI K sx.1 sx.2.1 sx.2.2.1 sx.2.2.2 ++ (iW K i0 ++ tt)))) (hS : va_S A s.heap H locs) (hl : lv_has ls 2 [(0, .ref (r 0)), (1, .int 1)]) : W p l e (rmD 8 21 197) s m ([.ref (r 0), .int x] : List Value).toArray below meth c H locs 21 197 (kQi D (tysK K) (fun v (u : xS × Option sX × Option sX) => xI u.1.1 u.1.2.1 ∧ gOK K u.1.2.2.2 tt ∧ iOK K tt u.2.1 ∧ iOK K tt u.2.2 ∧ u.1.2.2.2 92 0 = iA u.2.1 ∧ u.1.2.2.2 92 1 = iA u.2.2 ∧ iQ i0 u.2.1 ∧ iQ i1 u.2.2 ∧ bkZ x v i0 i1 k0 k1 f0 a0 g0 u.1.1 u.1.2.1 u.1.2.2.2 ∧ u.1.1 16 = v) (fun u => xX K r u.1.1 u.1.2.1 u.1.2.2 (iW K u.2.1 ++ (iW K u.2.2 ++ tt))) A below ([.ref (r 0), .int x] : List Value).toArray s 21 197) (F0 m 31 ls []) := by
  refine lv_aload_n hx hb dX11_back_31 rfl (lv_at hl 0 rfl) ?_
  refine va_get (D := D) (ci := 11) (v := .ref (r 1)) (C := RX11) (T := TX11) (N := 17) hx hb hg inC11 hown hK hP 0 rfl rfl 0 (by decide) (hg _ wt2_186) (fun _ h9 => h9) rfl dX11_back_32 ?_
  refine lv_aload_n hx hb dX11_back_35 rfl (lv_at hl 0 rfl) ?_
  refine va_get (D := D) (ci := 11) (v := .ref (r 92)) (C := RX11) (T := TX11) (N := 17) hx hb hg inC11 hown hK hP 0 rfl rfl 9 (by decide) (hg _ wt2_195) (fun _ h9 => h9) rfl dX11_back_36 ?_
  refine lv_iload_n hx hb dX11_back_39 rfl (lv_at hl 1 rfl) ?_
  refine va_aldq hx hb hK hP 92 4 rfl rfl (k_in (by decide +kernel)) dX11_back_40 ?_
  rw [cl_1]
  refine k_tops hgk ?_
  have hP : va_P D vwCl (xX K (mr r sx) (mf f0 sx) (ma a0 sx) (mg g sx) (sI K (mr r sx) (mf f0 sx) (ma a0 sx) (mg g sx) ++ (iW K i0 ++ tt))) H := hP
  have hD : va_D A (xX K (mr r sx) (mf f0 sx) (ma a0 sx) (mg g sx) (sI K (mr r sx) (mf f0 sx) (ma a0 sx) (mg g sx) ++ (iW K i0 ++ tt))) := hD
  subst e0
  have hVm := hVi1 sx hi
  refine kVG.callW (As := [.ref (sx.1 95)]) (rest := []) ⟨hx, hb, hml, hown, hg⟩ (z_copyFromB l (mr r sx) (mf f0 sx) (ma a0 sx) (mg g sx) (iW K i0 ++ tt) tt mem_r (xI_m hI h0) (gOK_m hG h1) k1 hVm.1 hVm.2) (cwV 1 hg (kgV wt5_141 wt4_80 wt4_81 wt1_2 wt4_82) rfl rfl rfl (by decide +kernel) ⟨by decide, by decide⟩) hV hK hP hD hS hA 1 7 rfl rfl rfl hl.1 rfl (Nat.le_of_ble_eq_true rfl) dX11_back_41 ⟨by decide, by decide⟩ (fun u1 H locs h1 hP hD hS => ?_)
  obtain ⟨f1, a1, g1⟩ := u1
  obtain ⟨hI1, hG1, hE1, hp1, hp2⟩ := h1
  have hP : va_P D vwCl (xX K r f1 a1 g1 (sI K sx.1 f1 a1 g1 ++ (iW K i0 ++ tt))) H := hP
  have hD : va_D A (xX K r f1 a1 g1 (sI K sx.1 f1 a1 g1 ++ (iW K i0 ++ tt))) := hD
  refine lv_aload_n hx hb dX11_back_44 rfl (lv_at hl 0 rfl) ?_
  refine va_get (D := D) (ci := 11) (v := .ref (r 22)) (C := RX11) (T := TX11) (N := 17) hx hb hg inC11 hown hK hP 0 rfl rfl 1 (by decide) (hg _ wt2_187) (fun _ h9 => h9) rfl dX11_back_45 ?_
  refine kVG.callW (As := []) (rest := []) ⟨hx, hb, hml, hown, hg⟩ (z_pclear l r f1 a1 g1 (sI K sx.1 f1 a1 g1 ++ (iW K i0 ++ tt)) tt mem_rr hI1 hG1) (cwV 0 hg (kgV wt3_11 wt3_12 wt3_13 wt1_4 wt3_14) rfl rfl rfl (by decide +kernel) ⟨by decide, by decide⟩) hV hK hP hD hS hA 22 2 rfl rfl rfl hl.1 rfl (Nat.le_of_ble_eq_true rfl) dX11_back_48 ⟨by decide, by decide⟩ (fun u2 H locs h2 hP hD hS => ?_)
  obtain ⟨f2, a2, g2⟩ := u2
  obtain ⟨hI2, hG2, hE2, hc1, hc2⟩ := h2
  have hP : va_P D vwCl (xX K r f2 a2 g2 (sI K sx.1 f1 a1 g1 ++ (iW K i0 ++ tt))) H := hP
  have hD : va_D A (xX K r f2 a2 g2 (sI K sx.1 f1 a1 g1 ++ (iW K i0 ++ tt))) := hD
  refine lv_aload_n hx hb dX11_back_51 rfl (lv_at hl 0 rfl) ?_
  refine lv_iconst (v := 0) hx hb dX11_back_52 (by decide) ?_
  refine kIG.callW (As := [.int 0]) (rest := []) ⟨hx, hb, hml, hown, hg⟩ (z_agreeChanged l r f2 a2 g2 (sI K sx.1 f1 a1 g1 ++ (iW K i0 ++ tt)) tt mem_rr hI2 hG2 0) (cwV 1 hg (kgV wt3_15 wt3_17 wp1_1 wt1_1 wt3_18) rfl rfl rfl (by decide +kernel) ⟨by decide, by decide⟩) hV hK hP hD hS hA 0 11 rfl rfl rfl hl.1 rfl (Nat.le_of_ble_eq_true rfl) dX11_back_53 ⟨by decide, by decide⟩ (fun v3 u3 H locs h3 hP hD hS => ?_)
  obtain ⟨f3, a3, g3⟩ := u3
  obtain ⟨-, hI3, hG3, hE3, hv3, hst⟩ := h3
  refine k_top (z := 0) hv3 ?_
  have hP : va_P D vwCl (xX K r f3 a3 g3 (sI K sx.1 f1 a1 g1 ++ (iW K i0 ++ tt))) H := hP
  have hD : va_D A (xX K r f3 a3 g3 (sI K sx.1 f1 a1 g1 ++ (iW K i0 ++ tt))) := hD
  have hF9 : ∀ j, j < 3040 → bkL.contains j = false → f3 j = f0 j := fun j hj hc => (hE3.1 j (nc_sub (by decide) hc)).trans ((hE2.1 j (nc_sub (by decide) hc)).trans ((hE1.1 j (nc_sub (by decide) hc)).trans (if_pos hj)))
  have hA9 : ∀ s, s < 95 → bkR.contains s = false → a3 s = a0 s := fun s hs hc => (hE3.2.1 s (nc_sub (by decide) hc)).trans ((hE2.2.1 s rfl).trans ((hE1.2.1 s (nc_sub (by decide) hc)).trans (if_pos hs)))
  have hG9 : ∀ s, s < 95 → [15].contains s = false → g3.2 s = g.2 s := fun s hs hc => (hE3.2.2 s rfl).trans ((hE2.2.2 s rfl).trans ((hE1.2.2 s hc).trans (if_pos hs)))
  have hq92 : g3.2 92 = g.2 92 := hG9 92 (by decide) rfl
  have hs1 : iOK K tt (some (sx.1, f1, a1, g1)) := ⟨fI_at hI1.1 3040 (by decide) (by decide), fun i => hG1 109 i (Or.inr (Or.inr (Or.inr rfl)))⟩
  have his : iQ i1 (some (sx.1, f1, a1, g1)) := by rw [hi]; exact ⟨fun j hj => (hE1.1 j (nc_ge (B := 51) (by decide) (by omega))).trans (if_neg (by omega)), fun p hp => (hE1.2.1 p (nc_ge (B := 15) (by decide) (by omega))).trans (if_neg (by omega)), fun p hp => (hE1.2.2 p (nc_ge (B := 16) (by decide) (by omega))).trans (if_neg (by omega))⟩
  have hsv : sV 32 2 f3 a3 k1 := sV_cg hp1 ((hE3.1 32 rfl).trans (hE2.1 32 rfl)) ((hE3.1 38 rfl).trans (hE2.1 38 rfl)) ((hE3.1 44 rfl).trans (hE2.1 44 rfl)) ((hE3.1 49 rfl).trans (hE2.1 49 rfl)) ((hE3.1 50 rfl).trans (hE2.1 50 rfl)) (fun j hj => (hE3.2.1 (2 + j) (nc_lt (B := 81) (by decide) (by omega))).trans (hE2.2.1 (2 + j) rfl))
  have hlw : ∀ q, q < 6 → g3.2 15 q = sx.2.2.2.2 109 q := fun q hq => (congrFun ((hE3.2.2 15 rfl).trans (hE2.2.2 15 rfl)) q).trans (hp2 q hq)
  have hbk : bkZ x 0 i0 i1 k0 k1 f0 a0 g.2 f3 a3 g3.2 := Or.inr (Or.inr ⟨rfl, ⟨hF9, hA9, hG9⟩, (hE3.1 704 rfl).trans hc1, (hE3.1 705 rfl).trans hc2, Or.inr ⟨ex, hsv, sx, hi, hlw⟩⟩)
  have hpm : (xX K r f3 a3 g3 (sI K sx.1 f1 a1 g1 ++ (iW K i0 ++ tt))).Perm (xX K r f3 a3 g3 (iW K i0 ++ (sI K sx.1 f1 a1 g1 ++ tt))) := xX_pm (List.perm_append_comm_assoc _ _ _)
  exact kI_ret (v := 0) hx hb hr hlocks rfl hK hS dX11_back_56 ((f3, a3, g3), i0, some (sx.1, f1, a1, g1)) (va_P_pm hpm hP) (va_D_pm hpm hD) ⟨hI3, hG3, ho, hs1, by rw [hq92]; exact hgo, by rw [hq92]; exact hgk, iQ_rf _, his, hbk, hst⟩
set_option maxHeartbeats 4000000 in
set_option maxRecDepth 100000 in
theorem z_back (l : Launch) {D : va_G} {K : Nat → ClassId} (r : Nat → Nat) (f0 : Nat → Int32) (a0 : Nat → Nat → Int32) (g : xG) (i0 i1 : Option sX) (tt : va_W) (hI : xI f0 a0) (hG : gOK K g.2 tt) (h0 : iOK K tt i0) (h1 : iOK K tt i1) (hg0 : g.2 92 0 = iA i0) (hg1 : g.2 92 1 = iA i1) (x : Int32) {k0 k1 : Nat → Int32} (hVi0 : ∀ s, i0 = some s → sV 3040 96 s.2.1 s.2.2.1 k0 ∧ kK k0) (hVi1 : ∀ s, i1 = some s → sV 3040 96 s.2.1 s.2.2.1 k1 ∧ kK k1) : kIG l yX11_back (Cond.code yX11_back cX11_back 2 (some .int) :: kG) (rmD 8 21 197) D K [.ref (r 0), .int x] (xX K r f0 a0 g (iW K i0 ++ (iW K i1 ++ tt))) (fun v (u : xS × Option sX × Option sX) => xI u.1.1 u.1.2.1 ∧ gOK K u.1.2.2.2 tt ∧ iOK K tt u.2.1 ∧ iOK K tt u.2.2 ∧ u.1.2.2.2 92 0 = iA u.2.1 ∧ u.1.2.2.2 92 1 = iA u.2.2 ∧ iQ i0 u.2.1 ∧ iQ i1 u.2.2 ∧ bkZ x v i0 i1 k0 k1 f0 a0 g.2 u.1.1 u.1.2.1 u.1.2.2.2 ∧ u.1.1 16 = v) (fun u => xX K r u.1.1 u.1.2.1 u.1.2.2 (iW K u.2.1 ++ (iW K u.2.2 ++ tt))) 21 197 := by
  refine kIE.of (cc := cX11_back) (maxL := 2) (ret := (some .int)) (by decide) rfl (Nat.le_of_ble_eq_true rfl) ?_
  intro p e s m below meth c A hx hb hr hml hown hts hlocks hnm hK hP hD hS hA hV ls hl
  have hg : ∀ w ∈ kG, w.before ([.ref (r 0), .int x] : List Value).toArray s = true := fun w h => hts w (List.mem_cons_of_mem _ h)
  have hown : s.vm.findClass RX11 = some m.cls := hown
  have hl : lv_has ls 2 [(0, .ref (r 0)), (1, .int x)] := hl
  by_cases q0 : x = 0
  · have hl : lv_has ls 2 [(0, .ref (r 0)), (1, .int 0)] := q0 ▸ hl
    refine lv_iload_n hx hb dX11_back_0 rfl (lv_at hl 1 rfl) ?_
    refine lv_if_lt (tgt := 9) hx hb dX11_back_1 (by decide) (fun c1 => absurd c1 (by decide +kernel)) (fun c1 => ?_)
    refine lv_iload_n hx hb dX11_back_4 rfl (lv_at hl 1 rfl) ?_
    refine lv_iconst (v := 2) hx hb dX11_back_5 (by decide) ?_
    refine lv_icmp_lt (tgt := 15) hx hb dX11_back_6 (by decide) (fun c2 => ?_) (fun c2 => absurd (by decide +kernel) c2)
    refine lv_aload_n hx hb dX11_back_15 rfl (lv_at hl 0 rfl) ?_
    refine va_get (D := D) (ci := 11) (v := .ref (r 92)) (C := RX11) (T := TX11) (N := 17) hx hb hg inC11 hown hK hP 0 rfl rfl 9 (by decide) (hg _ wt2_195) (fun _ h9 => h9) rfl dX11_back_16 ?_
    refine lv_iload_n hx hb dX11_back_19 rfl (lv_at hl 1 rfl) ?_
    refine va_aldq hx hb hK hP 92 4 rfl rfl (k_in (by decide +kernel)) dX11_back_20 ?_
    rw [cl_0]
    rcases opt_c i0 with hi | ⟨sx, hi⟩
    · have hgk : g.2 92 0 = none := by rw [hg0, hi]; rfl
      refine k_topn hgk ?_
      refine lv_ifnonnullN hx hb dX11_back_21 ?_
      refine lv_aload_n hx hb dX11_back_24 rfl (lv_at hl 0 rfl) ?_
      refine lv_bipush (v := (-2)) hx hb dX11_back_25 (by decide) ?_
      refine kIG.callW (As := [.int (-2)]) (rest := []) ⟨hx, hb, hml, hown, hg⟩ (z_refuse l r f0 a0 g (iW K i0 ++ (iW K i1 ++ tt)) tt mem_rr hI hG (-2) ⟨by decide +kernel, by decide +kernel⟩ (by decide +kernel)) (cwV 1 hg (kgV wt3_7 wt3_9 wp1_0 wt1_1 wt3_10) rfl rfl rfl (by decide +kernel) ⟨by decide, by decide⟩) hV hK hP hD hS hA 0 11 rfl rfl rfl hl.1 rfl (Nat.le_of_ble_eq_true rfl) dX11_back_27 ⟨by decide, by decide⟩ (fun v2 u2 H locs h2 hP hD hS => ?_)
      obtain ⟨f2, a2, g2⟩ := u2
      obtain ⟨-, hI2, hG2, hE2, hv2, hst, hrf⟩ := h2
      refine k_top (z := (-2)) hv2 ?_
      refine W.widen (k := 21) (n := 197) (by decide) (by decide) ?_
      have hq92 : g2.2 92 = g.2 92 := hE2.2.2 92 rfl
      have hnF : nF [16] [94] [] f0 a0 g.2 f2 a2 g2.2 := ⟨fun j _ hc => hE2.1 j hc, fun s _ hc => hE2.2.1 s hc, fun s _ _ => hE2.2.2 s rfl⟩
      exact kI_ret (v := (-2)) hx hb hr hlocks rfl hK hS dX11_back_30 ((f2, a2, g2), i0, i1) hP hD ⟨hI2, hG2, h0, h1, by rw [hq92]; exact hg0, by rw [hq92]; exact hg1, iQ_rf _, iQ_rf _, Or.inr (Or.inl ⟨rfl, Or.inl ⟨q0, hi⟩, hnF, hrf⟩), hst⟩
    · have hgk : g.2 92 0 = some (sx.1 95) := by rw [hg0, hi]; rfl
      refine k_tops hgk ?_
      refine lv_ifnonnull (tgt := 31) hx hb dX11_back_21 (by decide) ?_
      have hP : va_P D vwCl (xX K r f0 a0 g (sI K sx.1 sx.2.1 sx.2.2.1 sx.2.2.2 ++ (iW K i1 ++ tt))) _ := (by rw [hi] at hP; exact hP)
      have hD : va_D A (xX K r f0 a0 g (sI K sx.1 sx.2.1 sx.2.2.1 sx.2.2.2 ++ (iW K i1 ++ tt))) := (by rw [hi] at hD; exact hD)
      have hs : iOK K tt (some sx) := hi ▸ h0
      refine W.widen (k := 21) (n := 197) (by decide) (by decide) ?_
      exact z_bck_t0 l hx hb hr hml hown hlocks hK hA hV (g := g) rfl (i0 := i0) (i1 := i1) (sx := sx) q0 hg hI hG hi hs.1 hs.2 h1 hgk hg1 hVi0 hVi1 hP hD hS hl
  by_cases q1 : x = 1
  · have hl : lv_has ls 2 [(0, .ref (r 0)), (1, .int 1)] := q1 ▸ hl
    refine lv_iload_n hx hb dX11_back_0 rfl (lv_at hl 1 rfl) ?_
    refine lv_if_lt (tgt := 9) hx hb dX11_back_1 (by decide) (fun c1 => absurd c1 (by decide +kernel)) (fun c1 => ?_)
    refine lv_iload_n hx hb dX11_back_4 rfl (lv_at hl 1 rfl) ?_
    refine lv_iconst (v := 2) hx hb dX11_back_5 (by decide) ?_
    refine lv_icmp_lt (tgt := 15) hx hb dX11_back_6 (by decide) (fun c2 => ?_) (fun c2 => absurd (by decide +kernel) c2)
    refine lv_aload_n hx hb dX11_back_15 rfl (lv_at hl 0 rfl) ?_
    refine va_get (D := D) (ci := 11) (v := .ref (r 92)) (C := RX11) (T := TX11) (N := 17) hx hb hg inC11 hown hK hP 0 rfl rfl 9 (by decide) (hg _ wt2_195) (fun _ h9 => h9) rfl dX11_back_16 ?_
    refine lv_iload_n hx hb dX11_back_19 rfl (lv_at hl 1 rfl) ?_
    refine va_aldq hx hb hK hP 92 4 rfl rfl (k_in (by decide +kernel)) dX11_back_20 ?_
    rw [cl_1]
    rcases opt_c i1 with hi | ⟨sx, hi⟩
    · have hgk : g.2 92 1 = none := by rw [hg1, hi]; rfl
      refine k_topn hgk ?_
      refine lv_ifnonnullN hx hb dX11_back_21 ?_
      refine lv_aload_n hx hb dX11_back_24 rfl (lv_at hl 0 rfl) ?_
      refine lv_bipush (v := (-2)) hx hb dX11_back_25 (by decide) ?_
      refine kIG.callW (As := [.int (-2)]) (rest := []) ⟨hx, hb, hml, hown, hg⟩ (z_refuse l r f0 a0 g (iW K i0 ++ (iW K i1 ++ tt)) tt mem_rr hI hG (-2) ⟨by decide +kernel, by decide +kernel⟩ (by decide +kernel)) (cwV 1 hg (kgV wt3_7 wt3_9 wp1_0 wt1_1 wt3_10) rfl rfl rfl (by decide +kernel) ⟨by decide, by decide⟩) hV hK hP hD hS hA 0 11 rfl rfl rfl hl.1 rfl (Nat.le_of_ble_eq_true rfl) dX11_back_27 ⟨by decide, by decide⟩ (fun v2 u2 H locs h2 hP hD hS => ?_)
      obtain ⟨f2, a2, g2⟩ := u2
      obtain ⟨-, hI2, hG2, hE2, hv2, hst, hrf⟩ := h2
      refine k_top (z := (-2)) hv2 ?_
      refine W.widen (k := 21) (n := 197) (by decide) (by decide) ?_
      have hq92 : g2.2 92 = g.2 92 := hE2.2.2 92 rfl
      have hnF : nF [16] [94] [] f0 a0 g.2 f2 a2 g2.2 := ⟨fun j _ hc => hE2.1 j hc, fun s _ hc => hE2.2.1 s hc, fun s _ _ => hE2.2.2 s rfl⟩
      exact kI_ret (v := (-2)) hx hb hr hlocks rfl hK hS dX11_back_30 ((f2, a2, g2), i0, i1) hP hD ⟨hI2, hG2, h0, h1, by rw [hq92]; exact hg0, by rw [hq92]; exact hg1, iQ_rf _, iQ_rf _, Or.inr (Or.inl ⟨rfl, Or.inr ⟨q1, hi⟩, hnF, hrf⟩), hst⟩
    · have hgk : g.2 92 1 = some (sx.1 95) := by rw [hg1, hi]; rfl
      refine k_tops hgk ?_
      refine lv_ifnonnull (tgt := 31) hx hb dX11_back_21 (by decide) ?_
      have hP : va_P D vwCl (xX K r f0 a0 g (sI K sx.1 sx.2.1 sx.2.2.1 sx.2.2.2 ++ (iW K i0 ++ tt))) _ := va_P_pm (xX_pm (List.perm_append_comm_assoc _ _ _)) (by rw [hi] at hP; exact hP)
      have hD : va_D A (xX K r f0 a0 g (sI K sx.1 sx.2.1 sx.2.2.1 sx.2.2.2 ++ (iW K i0 ++ tt))) := va_D_pm (xX_pm (List.perm_append_comm_assoc _ _ _)) (by rw [hi] at hD; exact hD)
      have hs : iOK K tt (some sx) := hi ▸ h1
      refine W.widen (k := 21) (n := 197) (by decide) (by decide) ?_
      exact z_bck_t1 l hx hb hr hml hown hlocks hK hA hV (g := g) rfl (i0 := i0) (i1 := i1) (sx := sx) q1 hg hI hG hi hs.1 hs.2 h0 hgk hg0 hVi0 hVi1 hP hD hS hl
  have fin : ∀ (H : Heap) (locs : List Loc) (ls : Array Slot), va_P D vwCl (xX K r f0 a0 g (iW K i0 ++ (iW K i1 ++ tt))) H → va_D A (xX K r f0 a0 g (iW K i0 ++ (iW K i1 ++ tt))) → va_S A s.heap H locs → lv_has ls 2 [(0, .ref (r 0)), (1, .int x)] → W p l e (rmD 8 21 197) s m ([.ref (r 0), .int x] : List Value).toArray below meth c H locs 0 0 (kQi D (tysK K) (fun v (u : xS × Option sX × Option sX) => xI u.1.1 u.1.2.1 ∧ gOK K u.1.2.2.2 tt ∧ iOK K tt u.2.1 ∧ iOK K tt u.2.2 ∧ u.1.2.2.2 92 0 = iA u.2.1 ∧ u.1.2.2.2 92 1 = iA u.2.2 ∧ iQ i0 u.2.1 ∧ iQ i1 u.2.2 ∧ bkZ x v i0 i1 k0 k1 f0 a0 g.2 u.1.1 u.1.2.1 u.1.2.2.2 ∧ u.1.1 16 = v) (fun u => xX K r u.1.1 u.1.2.1 u.1.2.2 (iW K u.2.1 ++ (iW K u.2.2 ++ tt))) A below ([.ref (r 0), .int x] : List Value).toArray s 21 197) (F0 m 9 ls []) := by
    intro H locs ls hP hD hS hl
    refine lv_aload_n hx hb dX11_back_9 rfl (lv_at hl 0 rfl) ?_
    refine lv_iconst (v := (-1)) hx hb dX11_back_10 (by decide) ?_
    refine kIG.callW (As := [.int (-1)]) (rest := []) ⟨hx, hb, hml, hown, hg⟩ (z_refuse l r f0 a0 g (iW K i0 ++ (iW K i1 ++ tt)) tt mem_rr hI hG (-1) ⟨by decide +kernel, by decide +kernel⟩ (by decide +kernel)) (cwV 1 hg (kgV wt3_7 wt3_9 wp1_0 wt1_1 wt3_10) rfl rfl rfl (by decide +kernel) ⟨by decide, by decide⟩) hV hK hP hD hS hA 0 11 rfl rfl rfl hl.1 rfl (Nat.le_of_ble_eq_true rfl) dX11_back_11 ⟨by decide, by decide⟩ (fun v2 u2 H locs h2 hP hD hS => ?_)
    obtain ⟨f2, a2, g2⟩ := u2
    obtain ⟨-, hI2, hG2, hE2, hv2, hst, hrf⟩ := h2
    refine k_top (z := (-1)) hv2 ?_
    refine W.widen (k := 21) (n := 197) (by decide) (by decide) ?_
    have hq92 : g2.2 92 = g.2 92 := hE2.2.2 92 rfl
    have hnF : nF [16] [94] [] f0 a0 g.2 f2 a2 g2.2 := ⟨fun j _ hc => hE2.1 j hc, fun s _ hc => hE2.2.1 s hc, fun s _ _ => hE2.2.2 s rfl⟩
    exact kI_ret (v := (-1)) hx hb hr hlocks rfl hK hS dX11_back_14 ((f2, a2, g2), i0, i1) hP hD ⟨hI2, hG2, h0, h1, by rw [hq92]; exact hg0, by rw [hq92]; exact hg1, iQ_rf _, iQ_rf _, Or.inl ⟨rfl, no01 q0 q1, hnF, hrf⟩, hst⟩
  refine lv_iload_n hx hb dX11_back_0 rfl (lv_at hl 1 rfl) ?_
  refine lv_if_lt (tgt := 9) hx hb dX11_back_1 (by decide) (fun c1 => fin _ _ _ hP hD hS hl) (fun c1 => ?_)
  refine lv_iload_n hx hb dX11_back_4 rfl (lv_at hl 1 rfl) ?_
  refine lv_iconst (v := 2) hx hb dX11_back_5 (by decide) ?_
  refine lv_icmp_lt (tgt := 15) hx hb dX11_back_6 (by decide) (fun c2 => absurd c2 (ge2 q0 q1 c1)) (fun c2 => fin _ _ _ hP hD hS hl)
