/-! nights by draws: the class -/
section DX
variable {o q : Nat} {f f' : Nat → Int32} {a a' : Nat → Nat → Int32} {k : Nat → Int32} {DD : Nat → tE} {b p : Int32}
theorem sV_bg (h : sV o q f a k) (f1 : f' o = f o) (f2 : f' (o + 6) = f (o + 6)) (f3 : f' (o + 12) = f (o + 12)) (f4 : f' (o + 17) = f (o + 17)) (f5 : f' (o + 18) = f (o + 18)) (hr : ∀ j, j < 13 → ¬ j = 8 → a' (q + j) = a (q + j)) (hp : ∀ i, i < 6 → a' (q + 8) i = -1) : sV o q f' a' (bgF k) := by
  refine sV_mk h f1 f2 f3 f4 f5 (fun i hi => bg_E i (by omega)) (fun j hj n4 n7 n8 n9 => hr j hj n8) (fun i hi => ?_) (fun i hi => ?_) (fun i hi hn => ?_) ?_ (fun i hi => by rw [hr 9 (by decide) (by decide)])
  · rw [hr 4 (by decide) (by decide), bg_E (0 + i) (by omega)]; exact sv_left h hi
  · rw [hr 7 (by decide) (by decide), bg_E (10 + i) (by omega)]; exact sv_tired h hi
  · rw [hp i hi, bg_p hi]
  · rw [hr 9 (by decide) (by decide), bg_E 22 (by omega)]; exact sv_hour h
theorem sV_h1 {v : Int32} (h : sV o q f a k) (hr : ∀ j, j < 13 → ¬ j = 9 → a' (q + j) = a (q + j)) (e : a' (q + 9) = upd (a (q + 9)) 0 v) (hv : v = k 22 + 1) : sV o q f a' (upd k 22 (k 22 + 1)) := by
  refine sV_mk h rfl rfl rfl rfl rfl (fun i hi => pk_un (by omega)) (fun j hj n4 n7 n8 n9 => hr j hj n9) (fun i hi => ?_) (fun i hi => ?_) (fun i hi hn => ?_) ?_ (fun i hi => by rw [e, pk_un (by omega)])
  · rw [hr 4 (by decide) (by decide), pk_un (by omega)]; exact sv_left h hi
  · rw [hr 7 (by decide) (by decide), pk_un (by omega)]; exact sv_tired h hi
  · rw [hr 8 (by decide) (by decide), pk_un (by omega)]; exact sv_place h hi hn
  · rw [e, pk_us, pk_us, hv]
theorem ask_31 (hb : kb 0 b 5) : askF DD k 3 b p = 0 ∨ askF DD k 3 b p = 1 := by
  have w0 : wo0 k 3 b p = 0 := by unfold wo0; rw [if_neg (by decide), if_pos rfl]
  unfold askF
  rw [w0]
  split
  · exact Or.inl rfl
  · have w := lastOf_b (f := clT (DD (k 106).toInt.toNat) (kHd 3) (lwW k b p) (kHi 3)) (w := 0) (l := 0) (h := 1) ⟨Int.le_refl 0, by decide⟩ (fun c x hx => clT_b (hi := kHi 3) (by decide) c x hx) (DD (k 106).toInt.toNat).1
    unfold lwV
    omega
end DX
/-- what is told of the last night, as the class asks it -/
def enF (P B : Int32) (L T : Nat → Int32) (x y : Int32) : Int32 := if y = 0 ∧ 0 ≤ x.toInt ∧ x.toInt < P.toInt ∧ x.toInt < 10 then L x.toNatClampNeg else if y = 1 ∧ 0 ≤ x.toInt ∧ x.toInt < B.toInt ∧ x.toInt < 6 then T x.toNatClampNeg else -1
/-- the last night, as both sides keep it -/
def rDw (f ef : Nat → Int32) (a ea : Nat → Nat → Int32) : Prop := (ef 45 = -1 ∧ f 2849 = 0 ∧ f 2850 = 0) ∨ (f 2849 = ef 45 ∧ f 2850 = ef 46 ∧ kb 0 (ef 45) 10 ∧ kb 0 (ef 46) 6 ∧ (∀ i, i < 10 → a 90 i = ea 44 (0 + i)) ∧ ∀ i, i < 6 → a 91 i = ea 44 (10 + i))
section RDW
variable {f f1 ef ef2 : Nat → Int32} {a a1 ea ea2 : Nat → Nat → Int32} {x y : Int32}
theorem rDw_k (h : rDw f ef a ea) (e1 : f1 2849 = f 2849) (e2 : f1 2850 = f 2850) (e3 : ef2 45 = ef 45) (e4 : ef2 46 = ef 46) (e5 : a1 90 = a 90) (e6 : a1 91 = a 91) (e7 : ea2 44 = ea 44) : rDw f1 ef2 a1 ea2 := by
  unfold rDw at *
  rw [e1, e2, e3, e4, e5, e6, e7]
  exact h
theorem dw_eq (h : rDw f ef a ea) : enF (f 2849) (f 2850) (a 90) (a 91) x y = dwF (ef 45) (ef 46) (ea 44) x y := by
  have z0 : (0 : Int32).toInt = 0 := by decide +kernel
  have z01 : ¬ (1 : Int32) = 0 := by decide +kernel
  unfold enF dwF
  rcases h with ⟨h1, h2, h3⟩ | ⟨h1, h2, ⟨b1, b2⟩, ⟨c1, c2⟩, h3, h4⟩
  · rw [h2, h3, z0, if_pos h1, if_neg (fun q => by have w1 := q.2.1; have w2 := q.2.2.1; omega), if_neg (fun q => by have w1 := q.2.1; have w2 := q.2.2.1; omega)]
  · have n1 : ¬ ef 45 = -1 := fun e => by
      have w : (-1 : Int32).toInt = -1 := by decide +kernel
      rw [e, w] at b1
      omega
    rw [h1, h2, if_neg n1]
    by_cases e0 : y = 0
    · rw [if_pos e0]
      by_cases c : 0 ≤ x.toInt ∧ x.toInt ≤ (ef 45).toInt - 1
      · rw [if_pos c, if_pos ⟨e0, c.1, by omega, by omega⟩, h3 _ (by have w1 := c.1; have w2 := c.2; unfold Int32.toNatClampNeg; omega), Nat.zero_add]
      · rw [if_neg c, if_neg (fun q => c ⟨q.2.1, by have w1 := q.2.2.1; omega⟩), if_neg (fun q => z01 (q.1.symm.trans e0))]
    · rw [if_neg e0, if_neg (fun q => e0 q.1)]
      by_cases e1 : y = 1
      · rw [if_pos e1]
        by_cases c : 0 ≤ x.toInt ∧ x.toInt ≤ (ef 46).toInt - 1
        · rw [if_pos c, if_pos ⟨e1, c.1, by omega, by omega⟩, h4 _ (by have w1 := c.1; have w2 := c.2; unfold Int32.toNatClampNeg; omega)]
        · rw [if_neg c, if_neg (fun q => c ⟨q.2.1, by have w1 := q.2.2.1; omega⟩)]
      · rw [if_neg e1, if_neg (fun q => e1 q.1)]
end RDW
set_option maxHeartbeats 4000000 in
set_option maxRecDepth 100000 in
theorem z_copyFromP  (l : Launch) {D : va_G} {K : Nat → ClassId} (r : Nat → Nat) (f : Nat → Int32) (a : Nat → Nat → Int32) (g : xG) (tx tt : va_W) (hT : ∀ c ∈ tt, c ∈ tx) (hI : xI f a) (hG : gOK K g.2 tt)   (k : Nat → Int32) (hVw : sV 32 2 f a k) (hkk : kK k)   : kVG l yX7_copyFrom (Cond.code yX7_copyFrom cX7_copyFrom 3 none :: kG) (rmD 2 0 0) D K [.ref (r 59), .ref (r 1)] (xX K r f a g tx) (fun (u : xS) => xI u.1 u.2.1 ∧ gOK K u.2.2.2 tt ∧ xEk ([1888, 1894, 1900, 1905, 1906], [60, 61, 62, 63, 64, 65, 66, 67, 68, 69, 70, 71, 72], [73]) f a g u.1 u.2.1 u.2.2 ∧ sV 1888 60 u.1 u.2.1 k ∧ (∀ i, i < 6 → u.2.2.2 73 i = g.2 15 i)) (fun u => xX K r u.1 u.2.1 u.2.2 tx) 0 0 := by
  refine kVG.of (cc := cX7_copyFrom) (maxL := 3) (ret := none) (by decide) rfl (Nat.le_of_ble_eq_true rfl) ?_
  intro p e s m below meth c A hx hb hr hml hown hts hlocks hnm hK hP hD hS hA hV ls hl
  have hE : xEk ([1888, 1894, 1900, 1905, 1906], [60, 61, 62, 63, 64, 65, 66, 67, 68, 69, 70, 71, 72], [73]) f a g f a g := xEk_rf
  have hg : ∀ w ∈ kG, w.before _ s = true := fun w h => hts w (List.mem_cons_of_mem _ h)
  have hown : s.vm.findClass RX7 = some m.cls := hown
  have hl : lv_has ls 3 [(0, .ref (r 59)), (1, .ref (r 1))] := hl
  obtain ⟨s32, es32⟩ : ∃ z : Int32, z = f 32 := ⟨_, rfl⟩
  have b1 : kb 0 s32 10 := kb_eq es32 (fI_at hI.1 32 (by decide) (by decide))
  obtain ⟨s38, es38⟩ : ∃ z : Int32, z = f 38 := ⟨_, rfl⟩
  obtain ⟨s44, es44⟩ : ∃ z : Int32, z = f 44 := ⟨_, rfl⟩
  obtain ⟨s49, es49⟩ : ∃ z : Int32, z = f 49 := ⟨_, rfl⟩
  obtain ⟨s50, es50⟩ : ∃ z : Int32, z = f 50 := ⟨_, rfl⟩
  refine lv_aload_n hx hb dX7_copyFrom_0 rfl (lv_at hl 0 rfl) ?_
  refine lv_aload_n hx hb dX7_copyFrom_1 rfl (lv_at hl 1 rfl) ?_
  refine va_get (D := D) (ci := 7) (v := .int (f 32)) (C := RX7) (T := TX7) (N := 20) hx hb hg inC7 hown hK hP 1 rfl rfl 0 (by decide) (hg _ wt1_79) (fun _ h9 => h9) rfl dX7_copyFrom_2 ?_
  refine k_top (z := s32) es32.symm ?_
  refine va_put (D := D) (ci := 7) (v := .int s32) (ty := .int) (C := RX7) (T := TX7) (N := 20) hx hb hg inC7 tyX7 tyX7_ok nmX7 hown hK hP hD hS 59 rfl rfl 0 (by decide) (hg _ wt1_79) (fun _ h9 => h9) rfl (by decide +kernel) rfl rfl (Nat.le_of_ble_eq_true rfl) dX7_copyFrom_5 (fun H locs hP hD hS => ?_)
  have hP : va_P D vwCl (xX K r (upd f 1888 s32) a g tx) H := hP
  have hD : va_D A (xX K r (upd f 1888 s32) a g tx) := hD
  refine k_gen (P := fun z => va_P D vwCl (xX K r z a g tx) H ∧ va_D A (xX K r z a g tx) ∧ (xI z a) ∧ (gOK K g.2 tt) ∧ (xEk ([1888, 1894, 1900, 1905, 1906], [60, 61, 62, 63, 64, 65, 66, 67, 68, 69, 70, 71, 72], [73]) f a g z a g)) (upd f 1888 s32) ⟨hP, hD, (xI_f hI (fI_st hI.1 1888 b1 (by decide) (by decide))), hG, (xEk_f hE rfl)⟩ (fun f_2 ef_2 hq => ?_)
  obtain ⟨hP, hD, hI, hG, hE⟩ := hq
  refine lv_aload_n hx hb dX7_copyFrom_8 rfl (lv_at hl 1 rfl) ?_
  refine va_get (D := D) (ci := 7) (v := .ref (r 2)) (C := RX7) (T := TX7) (N := 20) hx hb hg inC7 hown hK hP 1 rfl rfl 1 (by decide) (hg _ wt1_86) (fun _ h9 => h9) rfl dX7_copyFrom_9 ?_
  refine lv_iconst (v := 0) hx hb dX7_copyFrom_12 (by decide) ?_
  refine lv_aload_n hx hb dX7_copyFrom_13 rfl (lv_at hl 0 rfl) ?_
  refine va_get (D := D) (ci := 7) (v := .ref (r 60)) (C := RX7) (T := TX7) (N := 20) hx hb hg inC7 hown hK hP 59 rfl rfl 1 (by decide) (hg _ wt1_86) (fun _ h9 => h9) rfl dX7_copyFrom_14 ?_
  refine lv_iconst (v := 0) hx hb dX7_copyFrom_17 (by decide) ?_
  refine lv_bipush (v := 10) hx hb dX7_copyFrom_18 (by decide) ?_
  refine va_copyi (ty := .int) hx hb (hml.trans hl.1.symm) hown (hg _ wt4_83) (hg _ wt4_70) (hg _ wt4_69) (hg _ wt1_20) hK hP hD hS 2 60 0 0 rfl rfl rfl rfl rfl (by decide) (by decide) (by decide) (by decide +kernel) (by decide +kernel) (fun i _ => rfl) (by decide) (Nat.le_of_ble_eq_true rfl) dX7_copyFrom_20 (fun H locs hP hD hS => ?_)
  have hP : va_P D vwCl (xX K r f_2 (va_up a 60 (va_cpy (a 2) (a 60) (0 : Int32).toNatClampNeg (0 : Int32).toNatClampNeg (10 : Int32).toNatClampNeg)) g tx) H := hP
  have hD : va_D A (xX K r f_2 (va_up a 60 (va_cpy (a 2) (a 60) (0 : Int32).toNatClampNeg (0 : Int32).toNatClampNeg (10 : Int32).toNatClampNeg)) g tx) := hD
  refine k_gen (P := fun z => va_P D vwCl (xX K r f_2 z g tx) H ∧ va_D A (xX K r f_2 z g tx) ∧ (xI f_2 z) ∧ (gOK K g.2 tt) ∧ (xEk ([1888, 1894, 1900, 1905, 1906], [60, 61, 62, 63, 64, 65, 66, 67, 68, 69, 70, 71, 72], [73]) f a g f_2 z g)) (va_up a 60 (va_cpy (a 2) (a 60) (0 : Int32).toNatClampNeg (0 : Int32).toNatClampNeg (10 : Int32).toNatClampNeg)) ⟨hP, hD, (xI_a hI (by decide)), hG, (xEk_a hE rfl)⟩ (fun a_3 ea_3 hq => ?_)
  obtain ⟨hP, hD, hI, hG, hE⟩ := hq
  refine lv_aload_n hx hb dX7_copyFrom_23 rfl (lv_at hl 1 rfl) ?_
  refine va_get (D := D) (ci := 7) (v := .ref (r 3)) (C := RX7) (T := TX7) (N := 20) hx hb hg inC7 hown hK hP 1 rfl rfl 2 (by decide) (hg _ wt1_89) (fun _ h9 => h9) rfl dX7_copyFrom_24 ?_
  refine lv_iconst (v := 0) hx hb dX7_copyFrom_27 (by decide) ?_
  refine lv_aload_n hx hb dX7_copyFrom_28 rfl (lv_at hl 0 rfl) ?_
  refine va_get (D := D) (ci := 7) (v := .ref (r 61)) (C := RX7) (T := TX7) (N := 20) hx hb hg inC7 hown hK hP 59 rfl rfl 2 (by decide) (hg _ wt1_89) (fun _ h9 => h9) rfl dX7_copyFrom_29 ?_
  refine lv_iconst (v := 0) hx hb dX7_copyFrom_32 (by decide) ?_
  refine lv_bipush (v := 10) hx hb dX7_copyFrom_33 (by decide) ?_
  refine va_copyi (ty := .int) hx hb (hml.trans hl.1.symm) hown (hg _ wt4_83) (hg _ wt4_70) (hg _ wt4_69) (hg _ wt1_20) hK hP hD hS 3 61 0 0 rfl rfl rfl rfl rfl (by decide) (by decide) (by decide) (by decide +kernel) (by decide +kernel) (fun i _ => rfl) (by decide) (Nat.le_of_ble_eq_true rfl) dX7_copyFrom_35 (fun H locs hP hD hS => ?_)
  have hP : va_P D vwCl (xX K r f_2 (va_up a_3 61 (va_cpy (a_3 3) (a_3 61) (0 : Int32).toNatClampNeg (0 : Int32).toNatClampNeg (10 : Int32).toNatClampNeg)) g tx) H := hP
  have hD : va_D A (xX K r f_2 (va_up a_3 61 (va_cpy (a_3 3) (a_3 61) (0 : Int32).toNatClampNeg (0 : Int32).toNatClampNeg (10 : Int32).toNatClampNeg)) g tx) := hD
  refine k_gen (P := fun z => va_P D vwCl (xX K r f_2 z g tx) H ∧ va_D A (xX K r f_2 z g tx) ∧ (xI f_2 z) ∧ (gOK K g.2 tt) ∧ (xEk ([1888, 1894, 1900, 1905, 1906], [60, 61, 62, 63, 64, 65, 66, 67, 68, 69, 70, 71, 72], [73]) f a g f_2 z g)) (va_up a_3 61 (va_cpy (a_3 3) (a_3 61) (0 : Int32).toNatClampNeg (0 : Int32).toNatClampNeg (10 : Int32).toNatClampNeg)) ⟨hP, hD, (xI_a hI (by decide)), hG, (xEk_a hE rfl)⟩ (fun a_4 ea_4 hq => ?_)
  obtain ⟨hP, hD, hI, hG, hE⟩ := hq
  refine lv_aload_n hx hb dX7_copyFrom_38 rfl (lv_at hl 1 rfl) ?_
  refine va_get (D := D) (ci := 7) (v := .ref (r 4)) (C := RX7) (T := TX7) (N := 20) hx hb hg inC7 hown hK hP 1 rfl rfl 3 (by decide) (hg _ wt1_93) (fun _ h9 => h9) rfl dX7_copyFrom_39 ?_
  refine lv_iconst (v := 0) hx hb dX7_copyFrom_42 (by decide) ?_
  refine lv_aload_n hx hb dX7_copyFrom_43 rfl (lv_at hl 0 rfl) ?_
  refine va_get (D := D) (ci := 7) (v := .ref (r 62)) (C := RX7) (T := TX7) (N := 20) hx hb hg inC7 hown hK hP 59 rfl rfl 3 (by decide) (hg _ wt1_93) (fun _ h9 => h9) rfl dX7_copyFrom_44 ?_
  refine lv_iconst (v := 0) hx hb dX7_copyFrom_47 (by decide) ?_
  refine lv_bipush (v := 10) hx hb dX7_copyFrom_48 (by decide) ?_
  refine va_copyi (ty := .int) hx hb (hml.trans hl.1.symm) hown (hg _ wt4_83) (hg _ wt4_70) (hg _ wt4_69) (hg _ wt1_20) hK hP hD hS 4 62 0 0 rfl rfl rfl rfl rfl (by decide) (by decide) (by decide) (by decide +kernel) (by decide +kernel) (fun i _ => rfl) (by decide) (Nat.le_of_ble_eq_true rfl) dX7_copyFrom_50 (fun H locs hP hD hS => ?_)
  have hP : va_P D vwCl (xX K r f_2 (va_up a_4 62 (va_cpy (a_4 4) (a_4 62) (0 : Int32).toNatClampNeg (0 : Int32).toNatClampNeg (10 : Int32).toNatClampNeg)) g tx) H := hP
  have hD : va_D A (xX K r f_2 (va_up a_4 62 (va_cpy (a_4 4) (a_4 62) (0 : Int32).toNatClampNeg (0 : Int32).toNatClampNeg (10 : Int32).toNatClampNeg)) g tx) := hD
  refine k_gen (P := fun z => va_P D vwCl (xX K r f_2 z g tx) H ∧ va_D A (xX K r f_2 z g tx) ∧ (xI f_2 z) ∧ (gOK K g.2 tt) ∧ (xEk ([1888, 1894, 1900, 1905, 1906], [60, 61, 62, 63, 64, 65, 66, 67, 68, 69, 70, 71, 72], [73]) f a g f_2 z g)) (va_up a_4 62 (va_cpy (a_4 4) (a_4 62) (0 : Int32).toNatClampNeg (0 : Int32).toNatClampNeg (10 : Int32).toNatClampNeg)) ⟨hP, hD, (xI_a hI (by decide)), hG, (xEk_a hE rfl)⟩ (fun a_5 ea_5 hq => ?_)
  obtain ⟨hP, hD, hI, hG, hE⟩ := hq
  refine lv_aload_n hx hb dX7_copyFrom_53 rfl (lv_at hl 1 rfl) ?_
  refine va_get (D := D) (ci := 7) (v := .ref (r 5)) (C := RX7) (T := TX7) (N := 20) hx hb hg inC7 hown hK hP 1 rfl rfl 4 (by decide) (hg _ wt1_95) (fun _ h9 => h9) rfl dX7_copyFrom_54 ?_
  refine lv_iconst (v := 0) hx hb dX7_copyFrom_57 (by decide) ?_
  refine lv_aload_n hx hb dX7_copyFrom_58 rfl (lv_at hl 0 rfl) ?_
  refine va_get (D := D) (ci := 7) (v := .ref (r 63)) (C := RX7) (T := TX7) (N := 20) hx hb hg inC7 hown hK hP 59 rfl rfl 4 (by decide) (hg _ wt1_95) (fun _ h9 => h9) rfl dX7_copyFrom_59 ?_
  refine lv_iconst (v := 0) hx hb dX7_copyFrom_62 (by decide) ?_
  refine lv_bipush (v := 10) hx hb dX7_copyFrom_63 (by decide) ?_
  refine va_copyi (ty := .int) hx hb (hml.trans hl.1.symm) hown (hg _ wt4_83) (hg _ wt4_70) (hg _ wt4_69) (hg _ wt1_20) hK hP hD hS 5 63 0 0 rfl rfl rfl rfl rfl (by decide) (by decide) (by decide) (by decide +kernel) (by decide +kernel) (fun i _ => rfl) (by decide) (Nat.le_of_ble_eq_true rfl) dX7_copyFrom_65 (fun H locs hP hD hS => ?_)
  have hP : va_P D vwCl (xX K r f_2 (va_up a_5 63 (va_cpy (a_5 5) (a_5 63) (0 : Int32).toNatClampNeg (0 : Int32).toNatClampNeg (10 : Int32).toNatClampNeg)) g tx) H := hP
  have hD : va_D A (xX K r f_2 (va_up a_5 63 (va_cpy (a_5 5) (a_5 63) (0 : Int32).toNatClampNeg (0 : Int32).toNatClampNeg (10 : Int32).toNatClampNeg)) g tx) := hD
  refine k_gen (P := fun z => va_P D vwCl (xX K r f_2 z g tx) H ∧ va_D A (xX K r f_2 z g tx) ∧ (xI f_2 z) ∧ (gOK K g.2 tt) ∧ (xEk ([1888, 1894, 1900, 1905, 1906], [60, 61, 62, 63, 64, 65, 66, 67, 68, 69, 70, 71, 72], [73]) f a g f_2 z g)) (va_up a_5 63 (va_cpy (a_5 5) (a_5 63) (0 : Int32).toNatClampNeg (0 : Int32).toNatClampNeg (10 : Int32).toNatClampNeg)) ⟨hP, hD, (xI_a hI (by decide)), hG, (xEk_a hE rfl)⟩ (fun a_6 ea_6 hq => ?_)
  obtain ⟨hP, hD, hI, hG, hE⟩ := hq
  refine lv_aload_n hx hb dX7_copyFrom_68 rfl (lv_at hl 1 rfl) ?_
  refine va_get (D := D) (ci := 7) (v := .ref (r 6)) (C := RX7) (T := TX7) (N := 20) hx hb hg inC7 hown hK hP 1 rfl rfl 5 (by decide) (hg _ wt1_97) (fun _ h9 => h9) rfl dX7_copyFrom_69 ?_
  refine lv_iconst (v := 0) hx hb dX7_copyFrom_72 (by decide) ?_
  refine lv_aload_n hx hb dX7_copyFrom_73 rfl (lv_at hl 0 rfl) ?_
  refine va_get (D := D) (ci := 7) (v := .ref (r 64)) (C := RX7) (T := TX7) (N := 20) hx hb hg inC7 hown hK hP 59 rfl rfl 5 (by decide) (hg _ wt1_97) (fun _ h9 => h9) rfl dX7_copyFrom_74 ?_
  refine lv_iconst (v := 0) hx hb dX7_copyFrom_77 (by decide) ?_
  refine lv_bipush (v := 10) hx hb dX7_copyFrom_78 (by decide) ?_
  refine va_copyi (ty := .int) hx hb (hml.trans hl.1.symm) hown (hg _ wt4_83) (hg _ wt4_70) (hg _ wt4_69) (hg _ wt1_20) hK hP hD hS 6 64 0 0 rfl rfl rfl rfl rfl (by decide) (by decide) (by decide) (by decide +kernel) (by decide +kernel) (fun i _ => rfl) (by decide) (Nat.le_of_ble_eq_true rfl) dX7_copyFrom_80 (fun H locs hP hD hS => ?_)
  have hP : va_P D vwCl (xX K r f_2 (va_up a_6 64 (va_cpy (a_6 6) (a_6 64) (0 : Int32).toNatClampNeg (0 : Int32).toNatClampNeg (10 : Int32).toNatClampNeg)) g tx) H := hP
  have hD : va_D A (xX K r f_2 (va_up a_6 64 (va_cpy (a_6 6) (a_6 64) (0 : Int32).toNatClampNeg (0 : Int32).toNatClampNeg (10 : Int32).toNatClampNeg)) g tx) := hD
  refine k_gen (P := fun z => va_P D vwCl (xX K r f_2 z g tx) H ∧ va_D A (xX K r f_2 z g tx) ∧ (xI f_2 z) ∧ (gOK K g.2 tt) ∧ (xEk ([1888, 1894, 1900, 1905, 1906], [60, 61, 62, 63, 64, 65, 66, 67, 68, 69, 70, 71, 72], [73]) f a g f_2 z g)) (va_up a_6 64 (va_cpy (a_6 6) (a_6 64) (0 : Int32).toNatClampNeg (0 : Int32).toNatClampNeg (10 : Int32).toNatClampNeg)) ⟨hP, hD, (xI_a hI (by decide)), hG, (xEk_a hE rfl)⟩ (fun a_7 ea_7 hq => ?_)
  obtain ⟨hP, hD, hI, hG, hE⟩ := hq
  refine lv_aload_n hx hb dX7_copyFrom_83 rfl (lv_at hl 0 rfl) ?_
  refine lv_aload_n hx hb dX7_copyFrom_84 rfl (lv_at hl 1 rfl) ?_
  refine va_get (D := D) (ci := 7) (v := .int (f_2 38)) (C := RX7) (T := TX7) (N := 20) hx hb hg inC7 hown hK hP 1 rfl rfl 6 (by decide) (hg _ wt1_104) (fun _ h9 => h9) rfl dX7_copyFrom_85 ?_
  refine k_top (z := s38) ((show f_2 38 = f 38 from by rw [← ef_2]; rfl).trans es38.symm) ?_
  refine va_put (D := D) (ci := 7) (v := .int s38) (ty := .int) (C := RX7) (T := TX7) (N := 20) hx hb hg inC7 tyX7 tyX7_ok nmX7 hown hK hP hD hS 59 rfl rfl 6 (by decide) (hg _ wt1_104) (fun _ h9 => h9) rfl (by decide +kernel) rfl rfl (Nat.le_of_ble_eq_true rfl) dX7_copyFrom_88 (fun H locs hP hD hS => ?_)
  have hP : va_P D vwCl (xX K r (upd f_2 1894 s38) a_7 g tx) H := hP
  have hD : va_D A (xX K r (upd f_2 1894 s38) a_7 g tx) := hD
  refine k_gen (P := fun z => va_P D vwCl (xX K r z a_7 g tx) H ∧ va_D A (xX K r z a_7 g tx) ∧ (xI z a_7) ∧ (gOK K g.2 tt) ∧ (xEk ([1888, 1894, 1900, 1905, 1906], [60, 61, 62, 63, 64, 65, 66, 67, 68, 69, 70, 71, 72], [73]) f a g z a_7 g)) (upd f_2 1894 s38) ⟨hP, hD, (xI_f hI (fI_st hI.1 1894 (kb_any _) (by decide) (by decide))), hG, (xEk_f hE rfl)⟩ (fun f_8 ef_8 hq => ?_)
  obtain ⟨hP, hD, hI, hG, hE⟩ := hq
  refine lv_aload_n hx hb dX7_copyFrom_91 rfl (lv_at hl 1 rfl) ?_
  refine va_get (D := D) (ci := 7) (v := .ref (r 7)) (C := RX7) (T := TX7) (N := 20) hx hb hg inC7 hown hK hP 1 rfl rfl 7 (by decide) (hg _ wt1_110) (fun _ h9 => h9) rfl dX7_copyFrom_92 ?_
  refine lv_iconst (v := 0) hx hb dX7_copyFrom_95 (by decide) ?_
  refine lv_aload_n hx hb dX7_copyFrom_96 rfl (lv_at hl 0 rfl) ?_
  refine va_get (D := D) (ci := 7) (v := .ref (r 65)) (C := RX7) (T := TX7) (N := 20) hx hb hg inC7 hown hK hP 59 rfl rfl 7 (by decide) (hg _ wt1_110) (fun _ h9 => h9) rfl dX7_copyFrom_97 ?_
  refine lv_iconst (v := 0) hx hb dX7_copyFrom_100 (by decide) ?_
  refine lv_bipush (v := 6) hx hb dX7_copyFrom_101 (by decide) ?_
  refine va_copyi (ty := .int) hx hb (hml.trans hl.1.symm) hown (hg _ wt4_83) (hg _ wt4_70) (hg _ wt4_69) (hg _ wt1_20) hK hP hD hS 7 65 0 0 rfl rfl rfl rfl rfl (by decide) (by decide) (by decide) (by decide +kernel) (by decide +kernel) (fun i _ => rfl) (by decide) (Nat.le_of_ble_eq_true rfl) dX7_copyFrom_103 (fun H locs hP hD hS => ?_)
  have hP : va_P D vwCl (xX K r f_8 (va_up a_7 65 (va_cpy (a_7 7) (a_7 65) (0 : Int32).toNatClampNeg (0 : Int32).toNatClampNeg (6 : Int32).toNatClampNeg)) g tx) H := hP
  have hD : va_D A (xX K r f_8 (va_up a_7 65 (va_cpy (a_7 7) (a_7 65) (0 : Int32).toNatClampNeg (0 : Int32).toNatClampNeg (6 : Int32).toNatClampNeg)) g tx) := hD
  refine k_gen (P := fun z => va_P D vwCl (xX K r f_8 z g tx) H ∧ va_D A (xX K r f_8 z g tx) ∧ (xI f_8 z) ∧ (gOK K g.2 tt) ∧ (xEk ([1888, 1894, 1900, 1905, 1906], [60, 61, 62, 63, 64, 65, 66, 67, 68, 69, 70, 71, 72], [73]) f a g f_8 z g)) (va_up a_7 65 (va_cpy (a_7 7) (a_7 65) (0 : Int32).toNatClampNeg (0 : Int32).toNatClampNeg (6 : Int32).toNatClampNeg)) ⟨hP, hD, (xI_a hI (by decide)), hG, (xEk_a hE rfl)⟩ (fun a_9 ea_9 hq => ?_)
  obtain ⟨hP, hD, hI, hG, hE⟩ := hq
  refine lv_aload_n hx hb dX7_copyFrom_106 rfl (lv_at hl 1 rfl) ?_
  refine va_get (D := D) (ci := 7) (v := .ref (r 8)) (C := RX7) (T := TX7) (N := 20) hx hb hg inC7 hown hK hP 1 rfl rfl 8 (by decide) (hg _ wt1_114) (fun _ h9 => h9) rfl dX7_copyFrom_107 ?_
  refine lv_iconst (v := 0) hx hb dX7_copyFrom_110 (by decide) ?_
  refine lv_aload_n hx hb dX7_copyFrom_111 rfl (lv_at hl 0 rfl) ?_
  refine va_get (D := D) (ci := 7) (v := .ref (r 66)) (C := RX7) (T := TX7) (N := 20) hx hb hg inC7 hown hK hP 59 rfl rfl 8 (by decide) (hg _ wt1_114) (fun _ h9 => h9) rfl dX7_copyFrom_112 ?_
  refine lv_iconst (v := 0) hx hb dX7_copyFrom_115 (by decide) ?_
  refine lv_bipush (v := 6) hx hb dX7_copyFrom_116 (by decide) ?_
  refine va_copyi (ty := .int) hx hb (hml.trans hl.1.symm) hown (hg _ wt4_83) (hg _ wt4_70) (hg _ wt4_69) (hg _ wt1_20) hK hP hD hS 8 66 0 0 rfl rfl rfl rfl rfl (by decide) (by decide) (by decide) (by decide +kernel) (by decide +kernel) (fun i _ => rfl) (by decide) (Nat.le_of_ble_eq_true rfl) dX7_copyFrom_118 (fun H locs hP hD hS => ?_)
  have hP : va_P D vwCl (xX K r f_8 (va_up a_9 66 (va_cpy (a_9 8) (a_9 66) (0 : Int32).toNatClampNeg (0 : Int32).toNatClampNeg (6 : Int32).toNatClampNeg)) g tx) H := hP
  have hD : va_D A (xX K r f_8 (va_up a_9 66 (va_cpy (a_9 8) (a_9 66) (0 : Int32).toNatClampNeg (0 : Int32).toNatClampNeg (6 : Int32).toNatClampNeg)) g tx) := hD
  refine k_gen (P := fun z => va_P D vwCl (xX K r f_8 z g tx) H ∧ va_D A (xX K r f_8 z g tx) ∧ (xI f_8 z) ∧ (gOK K g.2 tt) ∧ (xEk ([1888, 1894, 1900, 1905, 1906], [60, 61, 62, 63, 64, 65, 66, 67, 68, 69, 70, 71, 72], [73]) f a g f_8 z g)) (va_up a_9 66 (va_cpy (a_9 8) (a_9 66) (0 : Int32).toNatClampNeg (0 : Int32).toNatClampNeg (6 : Int32).toNatClampNeg)) ⟨hP, hD, (xI_a hI (by decide)), hG, (xEk_a hE rfl)⟩ (fun a_10 ea_10 hq => ?_)
  obtain ⟨hP, hD, hI, hG, hE⟩ := hq
  refine lv_aload_n hx hb dX7_copyFrom_121 rfl (lv_at hl 1 rfl) ?_
  refine va_get (D := D) (ci := 7) (v := .ref (r 9)) (C := RX7) (T := TX7) (N := 20) hx hb hg inC7 hown hK hP 1 rfl rfl 9 (by decide) (hg _ wt1_116) (fun _ h9 => h9) rfl dX7_copyFrom_122 ?_
  refine lv_iconst (v := 0) hx hb dX7_copyFrom_125 (by decide) ?_
  refine lv_aload_n hx hb dX7_copyFrom_126 rfl (lv_at hl 0 rfl) ?_
  refine va_get (D := D) (ci := 7) (v := .ref (r 67)) (C := RX7) (T := TX7) (N := 20) hx hb hg inC7 hown hK hP 59 rfl rfl 9 (by decide) (hg _ wt1_116) (fun _ h9 => h9) rfl dX7_copyFrom_127 ?_
  refine lv_iconst (v := 0) hx hb dX7_copyFrom_130 (by decide) ?_
  refine lv_bipush (v := 6) hx hb dX7_copyFrom_131 (by decide) ?_
  refine va_copyi (ty := .int) hx hb (hml.trans hl.1.symm) hown (hg _ wt4_83) (hg _ wt4_70) (hg _ wt4_69) (hg _ wt1_20) hK hP hD hS 9 67 0 0 rfl rfl rfl rfl rfl (by decide) (by decide) (by decide) (by decide +kernel) (by decide +kernel) (fun i _ => rfl) (by decide) (Nat.le_of_ble_eq_true rfl) dX7_copyFrom_133 (fun H locs hP hD hS => ?_)
  have hP : va_P D vwCl (xX K r f_8 (va_up a_10 67 (va_cpy (a_10 9) (a_10 67) (0 : Int32).toNatClampNeg (0 : Int32).toNatClampNeg (6 : Int32).toNatClampNeg)) g tx) H := hP
  have hD : va_D A (xX K r f_8 (va_up a_10 67 (va_cpy (a_10 9) (a_10 67) (0 : Int32).toNatClampNeg (0 : Int32).toNatClampNeg (6 : Int32).toNatClampNeg)) g tx) := hD
  refine k_gen (P := fun z => va_P D vwCl (xX K r f_8 z g tx) H ∧ va_D A (xX K r f_8 z g tx) ∧ (xI f_8 z) ∧ (gOK K g.2 tt) ∧ (xEk ([1888, 1894, 1900, 1905, 1906], [60, 61, 62, 63, 64, 65, 66, 67, 68, 69, 70, 71, 72], [73]) f a g f_8 z g)) (va_up a_10 67 (va_cpy (a_10 9) (a_10 67) (0 : Int32).toNatClampNeg (0 : Int32).toNatClampNeg (6 : Int32).toNatClampNeg)) ⟨hP, hD, (xI_a hI (by decide)), hG, (xEk_a hE rfl)⟩ (fun a_11 ea_11 hq => ?_)
  obtain ⟨hP, hD, hI, hG, hE⟩ := hq
  refine lv_aload_n hx hb dX7_copyFrom_136 rfl (lv_at hl 1 rfl) ?_
  refine va_get (D := D) (ci := 7) (v := .ref (r 10)) (C := RX7) (T := TX7) (N := 20) hx hb hg inC7 hown hK hP 1 rfl rfl 10 (by decide) (hg _ wt1_121) (fun _ h9 => h9) rfl dX7_copyFrom_137 ?_
  refine lv_iconst (v := 0) hx hb dX7_copyFrom_140 (by decide) ?_
  refine lv_aload_n hx hb dX7_copyFrom_141 rfl (lv_at hl 0 rfl) ?_
  refine va_get (D := D) (ci := 7) (v := .ref (r 68)) (C := RX7) (T := TX7) (N := 20) hx hb hg inC7 hown hK hP 59 rfl rfl 10 (by decide) (hg _ wt1_121) (fun _ h9 => h9) rfl dX7_copyFrom_142 ?_
  refine lv_iconst (v := 0) hx hb dX7_copyFrom_145 (by decide) ?_
  refine lv_bipush (v := 6) hx hb dX7_copyFrom_146 (by decide) ?_
  refine va_copyi (ty := .int) hx hb (hml.trans hl.1.symm) hown (hg _ wt4_83) (hg _ wt4_70) (hg _ wt4_69) (hg _ wt1_20) hK hP hD hS 10 68 0 0 rfl rfl rfl rfl rfl (by decide) (by decide) (by decide) (by decide +kernel) (by decide +kernel) (fun i _ => rfl) (by decide) (Nat.le_of_ble_eq_true rfl) dX7_copyFrom_148 (fun H locs hP hD hS => ?_)
  have hP : va_P D vwCl (xX K r f_8 (va_up a_11 68 (va_cpy (a_11 10) (a_11 68) (0 : Int32).toNatClampNeg (0 : Int32).toNatClampNeg (6 : Int32).toNatClampNeg)) g tx) H := hP
  have hD : va_D A (xX K r f_8 (va_up a_11 68 (va_cpy (a_11 10) (a_11 68) (0 : Int32).toNatClampNeg (0 : Int32).toNatClampNeg (6 : Int32).toNatClampNeg)) g tx) := hD
  refine k_gen (P := fun z => va_P D vwCl (xX K r f_8 z g tx) H ∧ va_D A (xX K r f_8 z g tx) ∧ (xI f_8 z) ∧ (gOK K g.2 tt) ∧ (xEk ([1888, 1894, 1900, 1905, 1906], [60, 61, 62, 63, 64, 65, 66, 67, 68, 69, 70, 71, 72], [73]) f a g f_8 z g)) (va_up a_11 68 (va_cpy (a_11 10) (a_11 68) (0 : Int32).toNatClampNeg (0 : Int32).toNatClampNeg (6 : Int32).toNatClampNeg)) ⟨hP, hD, (xI_a hI (by decide)), hG, (xEk_a hE rfl)⟩ (fun a_12 ea_12 hq => ?_)
  obtain ⟨hP, hD, hI, hG, hE⟩ := hq
  refine lv_aload_n hx hb dX7_copyFrom_151 rfl (lv_at hl 1 rfl) ?_
  refine va_get (D := D) (ci := 7) (v := .ref (r 11)) (C := RX7) (T := TX7) (N := 20) hx hb hg inC7 hown hK hP 1 rfl rfl 11 (by decide) (hg _ wt1_127) (fun _ h9 => h9) rfl dX7_copyFrom_152 ?_
  refine lv_iconst (v := 0) hx hb dX7_copyFrom_155 (by decide) ?_
  refine lv_aload_n hx hb dX7_copyFrom_156 rfl (lv_at hl 0 rfl) ?_
  refine va_get (D := D) (ci := 7) (v := .ref (r 69)) (C := RX7) (T := TX7) (N := 20) hx hb hg inC7 hown hK hP 59 rfl rfl 11 (by decide) (hg _ wt1_127) (fun _ h9 => h9) rfl dX7_copyFrom_157 ?_
  refine lv_iconst (v := 0) hx hb dX7_copyFrom_160 (by decide) ?_
  refine lv_iconst (v := 4) hx hb dX7_copyFrom_161 (by decide) ?_
  refine va_copyi (ty := .int) hx hb (hml.trans hl.1.symm) hown (hg _ wt4_83) (hg _ wt4_70) (hg _ wt4_69) (hg _ wt1_20) hK hP hD hS 11 69 0 0 rfl rfl rfl rfl rfl (by decide) (by decide) (by decide) (by decide +kernel) (by decide +kernel) (fun i _ => rfl) (by decide) (Nat.le_of_ble_eq_true rfl) dX7_copyFrom_162 (fun H locs hP hD hS => ?_)
  have hP : va_P D vwCl (xX K r f_8 (va_up a_12 69 (va_cpy (a_12 11) (a_12 69) (0 : Int32).toNatClampNeg (0 : Int32).toNatClampNeg (4 : Int32).toNatClampNeg)) g tx) H := hP
  have hD : va_D A (xX K r f_8 (va_up a_12 69 (va_cpy (a_12 11) (a_12 69) (0 : Int32).toNatClampNeg (0 : Int32).toNatClampNeg (4 : Int32).toNatClampNeg)) g tx) := hD
  refine k_gen (P := fun z => va_P D vwCl (xX K r f_8 z g tx) H ∧ va_D A (xX K r f_8 z g tx) ∧ (xI f_8 z) ∧ (gOK K g.2 tt) ∧ (xEk ([1888, 1894, 1900, 1905, 1906], [60, 61, 62, 63, 64, 65, 66, 67, 68, 69, 70, 71, 72], [73]) f a g f_8 z g)) (va_up a_12 69 (va_cpy (a_12 11) (a_12 69) (0 : Int32).toNatClampNeg (0 : Int32).toNatClampNeg (4 : Int32).toNatClampNeg)) ⟨hP, hD, (xI_a hI (by decide)), hG, (xEk_a hE rfl)⟩ (fun a_13 ea_13 hq => ?_)
  obtain ⟨hP, hD, hI, hG, hE⟩ := hq
  refine lv_aload_n hx hb dX7_copyFrom_165 rfl (lv_at hl 0 rfl) ?_
  refine lv_aload_n hx hb dX7_copyFrom_166 rfl (lv_at hl 1 rfl) ?_
  refine va_get (D := D) (ci := 7) (v := .int (f_8 44)) (C := RX7) (T := TX7) (N := 20) hx hb hg inC7 hown hK hP 1 rfl rfl 12 (by decide) (hg _ wt1_135) (fun _ h9 => h9) rfl dX7_copyFrom_167 ?_
  refine k_top (z := s44) ((show f_8 44 = f_2 44 from by rw [← ef_8]; rfl).trans ((show f_2 44 = f 44 from by rw [← ef_2]; rfl).trans es44.symm)) ?_
  refine va_put (D := D) (ci := 7) (v := .int s44) (ty := .int) (C := RX7) (T := TX7) (N := 20) hx hb hg inC7 tyX7 tyX7_ok nmX7 hown hK hP hD hS 59 rfl rfl 12 (by decide) (hg _ wt1_135) (fun _ h9 => h9) rfl (by decide +kernel) rfl rfl (Nat.le_of_ble_eq_true rfl) dX7_copyFrom_170 (fun H locs hP hD hS => ?_)
  have hP : va_P D vwCl (xX K r (upd f_8 1900 s44) a_13 g tx) H := hP
  have hD : va_D A (xX K r (upd f_8 1900 s44) a_13 g tx) := hD
  refine k_gen (P := fun z => va_P D vwCl (xX K r z a_13 g tx) H ∧ va_D A (xX K r z a_13 g tx) ∧ (xI z a_13) ∧ (gOK K g.2 tt) ∧ (xEk ([1888, 1894, 1900, 1905, 1906], [60, 61, 62, 63, 64, 65, 66, 67, 68, 69, 70, 71, 72], [73]) f a g z a_13 g)) (upd f_8 1900 s44) ⟨hP, hD, (xI_f hI (fI_st hI.1 1900 (kb_any _) (by decide) (by decide))), hG, (xEk_f hE rfl)⟩ (fun f_14 ef_14 hq => ?_)
  obtain ⟨hP, hD, hI, hG, hE⟩ := hq
  refine lv_aload_n hx hb dX7_copyFrom_173 rfl (lv_at hl 1 rfl) ?_
  refine va_get (D := D) (ci := 7) (v := .ref (r 12)) (C := RX7) (T := TX7) (N := 20) hx hb hg inC7 hown hK hP 1 rfl rfl 13 (by decide) (hg _ wt1_138) (fun _ h9 => h9) rfl dX7_copyFrom_174 ?_
  refine lv_iconst (v := 0) hx hb dX7_copyFrom_177 (by decide) ?_
  refine lv_aload_n hx hb dX7_copyFrom_178 rfl (lv_at hl 0 rfl) ?_
  refine va_get (D := D) (ci := 7) (v := .ref (r 70)) (C := RX7) (T := TX7) (N := 20) hx hb hg inC7 hown hK hP 59 rfl rfl 13 (by decide) (hg _ wt1_138) (fun _ h9 => h9) rfl dX7_copyFrom_179 ?_
  refine lv_iconst (v := 0) hx hb dX7_copyFrom_182 (by decide) ?_
  refine lv_bipush (v := 8) hx hb dX7_copyFrom_183 (by decide) ?_
  refine va_copyi (ty := .int) hx hb (hml.trans hl.1.symm) hown (hg _ wt4_83) (hg _ wt4_70) (hg _ wt4_69) (hg _ wt1_20) hK hP hD hS 12 70 0 0 rfl rfl rfl rfl rfl (by decide) (by decide) (by decide) (by decide +kernel) (by decide +kernel) (fun i _ => rfl) (by decide) (Nat.le_of_ble_eq_true rfl) dX7_copyFrom_185 (fun H locs hP hD hS => ?_)
  have hP : va_P D vwCl (xX K r f_14 (va_up a_13 70 (va_cpy (a_13 12) (a_13 70) (0 : Int32).toNatClampNeg (0 : Int32).toNatClampNeg (8 : Int32).toNatClampNeg)) g tx) H := hP
  have hD : va_D A (xX K r f_14 (va_up a_13 70 (va_cpy (a_13 12) (a_13 70) (0 : Int32).toNatClampNeg (0 : Int32).toNatClampNeg (8 : Int32).toNatClampNeg)) g tx) := hD
  refine k_gen (P := fun z => va_P D vwCl (xX K r f_14 z g tx) H ∧ va_D A (xX K r f_14 z g tx) ∧ (xI f_14 z) ∧ (gOK K g.2 tt) ∧ (xEk ([1888, 1894, 1900, 1905, 1906], [60, 61, 62, 63, 64, 65, 66, 67, 68, 69, 70, 71, 72], [73]) f a g f_14 z g)) (va_up a_13 70 (va_cpy (a_13 12) (a_13 70) (0 : Int32).toNatClampNeg (0 : Int32).toNatClampNeg (8 : Int32).toNatClampNeg)) ⟨hP, hD, (xI_a hI (by decide)), hG, (xEk_a hE rfl)⟩ (fun a_15 ea_15 hq => ?_)
  obtain ⟨hP, hD, hI, hG, hE⟩ := hq
  refine lv_aload_n hx hb dX7_copyFrom_188 rfl (lv_at hl 1 rfl) ?_
  refine va_get (D := D) (ci := 7) (v := .ref (r 13)) (C := RX7) (T := TX7) (N := 20) hx hb hg inC7 hown hK hP 1 rfl rfl 14 (by decide) (hg _ wt1_141) (fun _ h9 => h9) rfl dX7_copyFrom_189 ?_
  refine lv_iconst (v := 0) hx hb dX7_copyFrom_192 (by decide) ?_
  refine lv_aload_n hx hb dX7_copyFrom_193 rfl (lv_at hl 0 rfl) ?_
  refine va_get (D := D) (ci := 7) (v := .ref (r 71)) (C := RX7) (T := TX7) (N := 20) hx hb hg inC7 hown hK hP 59 rfl rfl 14 (by decide) (hg _ wt1_141) (fun _ h9 => h9) rfl dX7_copyFrom_194 ?_
  refine lv_iconst (v := 0) hx hb dX7_copyFrom_197 (by decide) ?_
  refine lv_bipush (v := 8) hx hb dX7_copyFrom_198 (by decide) ?_
  refine va_copyi (ty := .int) hx hb (hml.trans hl.1.symm) hown (hg _ wt4_83) (hg _ wt4_70) (hg _ wt4_69) (hg _ wt1_20) hK hP hD hS 13 71 0 0 rfl rfl rfl rfl rfl (by decide) (by decide) (by decide) (by decide +kernel) (by decide +kernel) (fun i _ => rfl) (by decide) (Nat.le_of_ble_eq_true rfl) dX7_copyFrom_200 (fun H locs hP hD hS => ?_)
  have hP : va_P D vwCl (xX K r f_14 (va_up a_15 71 (va_cpy (a_15 13) (a_15 71) (0 : Int32).toNatClampNeg (0 : Int32).toNatClampNeg (8 : Int32).toNatClampNeg)) g tx) H := hP
  have hD : va_D A (xX K r f_14 (va_up a_15 71 (va_cpy (a_15 13) (a_15 71) (0 : Int32).toNatClampNeg (0 : Int32).toNatClampNeg (8 : Int32).toNatClampNeg)) g tx) := hD
  refine k_gen (P := fun z => va_P D vwCl (xX K r f_14 z g tx) H ∧ va_D A (xX K r f_14 z g tx) ∧ (xI f_14 z) ∧ (gOK K g.2 tt) ∧ (xEk ([1888, 1894, 1900, 1905, 1906], [60, 61, 62, 63, 64, 65, 66, 67, 68, 69, 70, 71, 72], [73]) f a g f_14 z g)) (va_up a_15 71 (va_cpy (a_15 13) (a_15 71) (0 : Int32).toNatClampNeg (0 : Int32).toNatClampNeg (8 : Int32).toNatClampNeg)) ⟨hP, hD, (xI_a hI (by decide)), hG, (xEk_a hE rfl)⟩ (fun a_16 ea_16 hq => ?_)
  obtain ⟨hP, hD, hI, hG, hE⟩ := hq
  refine lv_aload_n hx hb dX7_copyFrom_203 rfl (lv_at hl 1 rfl) ?_
  refine va_get (D := D) (ci := 7) (v := .ref (r 14)) (C := RX7) (T := TX7) (N := 20) hx hb hg inC7 hown hK hP 1 rfl rfl 15 (by decide) (hg _ wt1_144) (fun _ h9 => h9) rfl dX7_copyFrom_204 ?_
  refine lv_iconst (v := 0) hx hb dX7_copyFrom_207 (by decide) ?_
  refine lv_aload_n hx hb dX7_copyFrom_208 rfl (lv_at hl 0 rfl) ?_
  refine va_get (D := D) (ci := 7) (v := .ref (r 72)) (C := RX7) (T := TX7) (N := 20) hx hb hg inC7 hown hK hP 59 rfl rfl 15 (by decide) (hg _ wt1_144) (fun _ h9 => h9) rfl dX7_copyFrom_209 ?_
  refine lv_iconst (v := 0) hx hb dX7_copyFrom_212 (by decide) ?_
  refine lv_bipush (v := 8) hx hb dX7_copyFrom_213 (by decide) ?_
  refine va_copyi (ty := .int) hx hb (hml.trans hl.1.symm) hown (hg _ wt4_83) (hg _ wt4_70) (hg _ wt4_69) (hg _ wt1_20) hK hP hD hS 14 72 0 0 rfl rfl rfl rfl rfl (by decide) (by decide) (by decide) (by decide +kernel) (by decide +kernel) (fun i _ => rfl) (by decide) (Nat.le_of_ble_eq_true rfl) dX7_copyFrom_215 (fun H locs hP hD hS => ?_)
  have hP : va_P D vwCl (xX K r f_14 (va_up a_16 72 (va_cpy (a_16 14) (a_16 72) (0 : Int32).toNatClampNeg (0 : Int32).toNatClampNeg (8 : Int32).toNatClampNeg)) g tx) H := hP
  have hD : va_D A (xX K r f_14 (va_up a_16 72 (va_cpy (a_16 14) (a_16 72) (0 : Int32).toNatClampNeg (0 : Int32).toNatClampNeg (8 : Int32).toNatClampNeg)) g tx) := hD
  refine k_gen (P := fun z => va_P D vwCl (xX K r f_14 z g tx) H ∧ va_D A (xX K r f_14 z g tx) ∧ (xI f_14 z) ∧ (gOK K g.2 tt) ∧ (xEk ([1888, 1894, 1900, 1905, 1906], [60, 61, 62, 63, 64, 65, 66, 67, 68, 69, 70, 71, 72], [73]) f a g f_14 z g)) (va_up a_16 72 (va_cpy (a_16 14) (a_16 72) (0 : Int32).toNatClampNeg (0 : Int32).toNatClampNeg (8 : Int32).toNatClampNeg)) ⟨hP, hD, (xI_a hI (by decide)), hG, (xEk_a hE rfl)⟩ (fun a_17 ea_17 hq => ?_)
  obtain ⟨hP, hD, hI, hG, hE⟩ := hq
  refine lv_iconst (v := 0) hx hb dX7_copyFrom_218 (by decide) ?_
  refine lv_istore_n (lv' := [(2, .int 0), (0, .ref (r 59)), (1, .ref (r 1))]) hx hb dX7_copyFrom_219 rfl hl (by decide) rfl (fun ls hl => ?_)
  have lp20 : ∀ (n21 : Nat) (nn : Nat) (G19 : xG) (H : Heap) (locs : List Loc) (ls : Array Slot) (y18 : Int32), (6 < y18.toInt + (n21 : Int)) → (xI f_14 a_17) → (gOK K G19.2 tt) → (xEk ([1888, 1894, 1900, 1905, 1906], [60, 61, 62, 63, 64, 65, 66, 67, 68, 69, 70, 71, 72], [73]) f a g f_14 a_17 G19) → (kb 0 y18 6) → (y18.toInt = (nn : Int)) → (∀ i, i < nn → G19.2 73 i = g.2 15 i) → (nn ≤ 6) → va_P D vwCl (xX K r f_14 a_17 G19 tx) H → va_D A (xX K r f_14 a_17 G19 tx) → va_S A s.heap H locs → lv_has ls 3 [(2, .int y18), (0, .ref (r 59)), (1, .ref (r 1))] → W p l e (rmD 2 0 0) s m ([.ref (r 59), .ref (r 1)] : List Value).toArray below meth c H locs 0 0 (kQv D (tysK K) (fun (u : xS) => xI u.1 u.2.1 ∧ gOK K u.2.2.2 tt ∧ xEk ([1888, 1894, 1900, 1905, 1906], [60, 61, 62, 63, 64, 65, 66, 67, 68, 69, 70, 71, 72], [73]) f a g u.1 u.2.1 u.2.2 ∧ sV 1888 60 u.1 u.2.1 k ∧ (∀ i, i < 6 → u.2.2.2 73 i = g.2 15 i)) (fun u => xX K r u.1 u.2.1 u.2.2 tx) A below ([.ref (r 59), .ref (r 1)] : List Value).toArray s 0 0) (F0 m 220 ls []) := by
    intro n21
    induction n21 with
    | zero =>
      intro nn G19  H locs ls y18 hmlp20 hI hG hE b22 hvlp20_0 hvlp20_1 hvlp20_2 hP hD hS hl
      exact (by have h1 := b22.2; have h2 := hmlp20; omega : False).elim
    | succ n21 ihlp20 =>
      intro nn G19  H locs ls y18 hmlp20 hI hG hE b22 hvlp20_0 hvlp20_1 hvlp20_2 hP hD hS hl
      have hnn : y18 = nI nn := nI_q hvlp20_0
      have hE9 := hE
      refine lv_iload_n hx hb dX7_copyFrom_220 rfl (lv_at hl 0 rfl) ?_
      refine lv_bipush (v := 6) hx hb dX7_copyFrom_221 (by decide) ?_
      refine lv_icmp_ge (tgt := 244) hx hb dX7_copyFrom_223 (by decide) (fun c23 => ?_) (fun c23 => ?_)
      · have h24 := (kc_le c23)
        have b25 : kb 6 y18 6 := kr_le2 h24 kc_6 b22
        refine lv_aload_n hx hb dX7_copyFrom_244 rfl (lv_at hl 1 rfl) ?_
        refine lv_aload_n hx hb dX7_copyFrom_245 rfl (lv_at hl 2 rfl) ?_
        refine va_get (D := D) (ci := 7) (v := .int (f_14 49)) (C := RX7) (T := TX7) (N := 20) hx hb hg inC7 hown hK hP 1 rfl rfl 17 (by decide) (hg _ wt1_149) (fun _ h9 => h9) rfl dX7_copyFrom_246 ?_
        refine k_top (z := s49) ((show f_14 49 = f_8 49 from by rw [← ef_14]; rfl).trans ((show f_8 49 = f_2 49 from by rw [← ef_8]; rfl).trans ((show f_2 49 = f 49 from by rw [← ef_2]; rfl).trans es49.symm))) ?_
        refine va_put (D := D) (ci := 7) (v := .int s49) (ty := .int) (C := RX7) (T := TX7) (N := 20) hx hb hg inC7 tyX7 tyX7_ok nmX7 hown hK hP hD hS 59 rfl rfl 17 (by decide) (hg _ wt1_149) (fun _ h9 => h9) rfl (by decide +kernel) rfl rfl (Nat.le_of_ble_eq_true rfl) dX7_copyFrom_249 (fun H locs hP hD hS => ?_)
        have hP : va_P D vwCl (xX K r (upd f_14 1905 s49) a_17 G19 tx) H := hP
        have hD : va_D A (xX K r (upd f_14 1905 s49) a_17 G19 tx) := hD
        refine k_gen (P := fun z => va_P D vwCl (xX K r z a_17 G19 tx) H ∧ va_D A (xX K r z a_17 G19 tx) ∧ (xI z a_17) ∧ (gOK K G19.2 tt) ∧ (xEk ([1888, 1894, 1900, 1905, 1906], [60, 61, 62, 63, 64, 65, 66, 67, 68, 69, 70, 71, 72], [73]) f a g z a_17 G19)) (upd f_14 1905 s49) ⟨hP, hD, (xI_f hI (fI_st hI.1 1905 (kb_any _) (by decide) (by decide))), hG, (xEk_f hE rfl)⟩ (fun f_26 ef_26 hq => ?_)
        obtain ⟨hP, hD, hI, hG, hE⟩ := hq
        refine lv_aload_n hx hb dX7_copyFrom_252 rfl (lv_at hl 1 rfl) ?_
        refine lv_aload_n hx hb dX7_copyFrom_253 rfl (lv_at hl 2 rfl) ?_
        refine va_get (D := D) (ci := 7) (v := .int (f_26 50)) (C := RX7) (T := TX7) (N := 20) hx hb hg inC7 hown hK hP 1 rfl rfl 18 (by decide) (hg _ wt1_151) (fun _ h9 => h9) rfl dX7_copyFrom_254 ?_
        refine k_top (z := s50) ((show f_26 50 = f_14 50 from by rw [← ef_26]; rfl).trans ((show f_14 50 = f_8 50 from by rw [← ef_14]; rfl).trans ((show f_8 50 = f_2 50 from by rw [← ef_8]; rfl).trans ((show f_2 50 = f 50 from by rw [← ef_2]; rfl).trans es50.symm)))) ?_
        refine va_put (D := D) (ci := 7) (v := .int s50) (ty := .int) (C := RX7) (T := TX7) (N := 20) hx hb hg inC7 tyX7 tyX7_ok nmX7 hown hK hP hD hS 59 rfl rfl 18 (by decide) (hg _ wt1_151) (fun _ h9 => h9) rfl (by decide +kernel) rfl rfl (Nat.le_of_ble_eq_true rfl) dX7_copyFrom_257 (fun H locs hP hD hS => ?_)
        have hP : va_P D vwCl (xX K r (upd f_26 1906 s50) a_17 G19 tx) H := hP
        have hD : va_D A (xX K r (upd f_26 1906 s50) a_17 G19 tx) := hD
        refine k_gen (P := fun z => va_P D vwCl (xX K r z a_17 G19 tx) H ∧ va_D A (xX K r z a_17 G19 tx) ∧ (xI z a_17) ∧ (gOK K G19.2 tt) ∧ (xEk ([1888, 1894, 1900, 1905, 1906], [60, 61, 62, 63, 64, 65, 66, 67, 68, 69, 70, 71, 72], [73]) f a g z a_17 G19)) (upd f_26 1906 s50) ⟨hP, hD, (xI_f hI (fI_st hI.1 1906 (kb_any _) (by decide) (by decide))), hG, (xEk_f hE rfl)⟩ (fun f_27 ef_27 hq => ?_)
        obtain ⟨hP, hD, hI, hG, hE⟩ := hq
        exact kV_ret hx hb hr hlocks hK hS dX7_copyFrom_260 (f_27, a_17, G19) hP hD ⟨hI, hG, hE, (sV_cp hVw ((((show f_27 1888 = f_26 1888 from by rw [← ef_27]; rfl).trans ((show f_26 1888 = f_14 1888 from by rw [← ef_26]; rfl).trans ((show f_14 1888 = f_8 1888 from by rw [← ef_14]; rfl).trans ((show f_8 1888 = f_2 1888 from by rw [← ef_8]; rfl).trans (show f_2 1888 = s32 from by rw [← ef_2]; rfl)))))).trans es32) ((((show f_27 1894 = f_26 1894 from by rw [← ef_27]; rfl).trans ((show f_26 1894 = f_14 1894 from by rw [← ef_26]; rfl).trans ((show f_14 1894 = f_8 1894 from by rw [← ef_14]; rfl).trans (show f_8 1894 = s38 from by rw [← ef_8]; rfl))))).trans es38) ((((show f_27 1900 = f_26 1900 from by rw [← ef_27]; rfl).trans ((show f_26 1900 = f_14 1900 from by rw [← ef_26]; rfl).trans (show f_14 1900 = s44 from by rw [← ef_14]; rfl)))).trans es44) ((((show f_27 1905 = f_26 1905 from by rw [← ef_27]; rfl).trans (show f_26 1905 = s49 from by rw [← ef_26]; rfl))).trans es49) (((show f_27 1906 = s50 from by rw [← ef_27]; rfl)).trans es50) (fun i hi => (congrFun ((show a_17 60 = a_16 60 from by rw [← ea_17]; rfl).trans ((show a_16 60 = a_15 60 from by rw [← ea_16]; rfl).trans ((show a_15 60 = a_13 60 from by rw [← ea_15]; rfl).trans ((show a_13 60 = a_12 60 from by rw [← ea_13]; rfl).trans ((show a_12 60 = a_11 60 from by rw [← ea_12]; rfl).trans ((show a_11 60 = a_10 60 from by rw [← ea_11]; rfl).trans ((show a_10 60 = a_9 60 from by rw [← ea_10]; rfl).trans ((show a_9 60 = a_7 60 from by rw [← ea_9]; rfl).trans ((show a_7 60 = a_6 60 from by rw [← ea_7]; rfl).trans ((show a_6 60 = a_5 60 from by rw [← ea_6]; rfl).trans ((show a_5 60 = a_4 60 from by rw [← ea_5]; rfl).trans (show a_4 60 = a_3 60 from by rw [← ea_4]; rfl)))))))))))) i).trans ((cp_z (n := 10) (show a_3 60 = _ from by rw [← ea_3]; rfl) (by decide +kernel) (by decide +kernel) (by decide +kernel) i hi).trans (congrFun rfl i))) (fun i hi => (congrFun ((show a_17 61 = a_16 61 from by rw [← ea_17]; rfl).trans ((show a_16 61 = a_15 61 from by rw [← ea_16]; rfl).trans ((show a_15 61 = a_13 61 from by rw [← ea_15]; rfl).trans ((show a_13 61 = a_12 61 from by rw [← ea_13]; rfl).trans ((show a_12 61 = a_11 61 from by rw [← ea_12]; rfl).trans ((show a_11 61 = a_10 61 from by rw [← ea_11]; rfl).trans ((show a_10 61 = a_9 61 from by rw [← ea_10]; rfl).trans ((show a_9 61 = a_7 61 from by rw [← ea_9]; rfl).trans ((show a_7 61 = a_6 61 from by rw [← ea_7]; rfl).trans ((show a_6 61 = a_5 61 from by rw [← ea_6]; rfl).trans (show a_5 61 = a_4 61 from by rw [← ea_5]; rfl))))))))))) i).trans ((cp_z (n := 10) (show a_4 61 = _ from by rw [← ea_4]; rfl) (by decide +kernel) (by decide +kernel) (by decide +kernel) i hi).trans (congrFun (show a_3 3 = a 3 from by rw [← ea_3]; rfl) i))) (fun i hi => (congrFun ((show a_17 62 = a_16 62 from by rw [← ea_17]; rfl).trans ((show a_16 62 = a_15 62 from by rw [← ea_16]; rfl).trans ((show a_15 62 = a_13 62 from by rw [← ea_15]; rfl).trans ((show a_13 62 = a_12 62 from by rw [← ea_13]; rfl).trans ((show a_12 62 = a_11 62 from by rw [← ea_12]; rfl).trans ((show a_11 62 = a_10 62 from by rw [← ea_11]; rfl).trans ((show a_10 62 = a_9 62 from by rw [← ea_10]; rfl).trans ((show a_9 62 = a_7 62 from by rw [← ea_9]; rfl).trans ((show a_7 62 = a_6 62 from by rw [← ea_7]; rfl).trans (show a_6 62 = a_5 62 from by rw [← ea_6]; rfl)))))))))) i).trans ((cp_z (n := 10) (show a_5 62 = _ from by rw [← ea_5]; rfl) (by decide +kernel) (by decide +kernel) (by decide +kernel) i hi).trans (congrFun ((show a_4 4 = a_3 4 from by rw [← ea_4]; rfl).trans (show a_3 4 = a 4 from by rw [← ea_3]; rfl)) i))) (fun i hi => (congrFun ((show a_17 63 = a_16 63 from by rw [← ea_17]; rfl).trans ((show a_16 63 = a_15 63 from by rw [← ea_16]; rfl).trans ((show a_15 63 = a_13 63 from by rw [← ea_15]; rfl).trans ((show a_13 63 = a_12 63 from by rw [← ea_13]; rfl).trans ((show a_12 63 = a_11 63 from by rw [← ea_12]; rfl).trans ((show a_11 63 = a_10 63 from by rw [← ea_11]; rfl).trans ((show a_10 63 = a_9 63 from by rw [← ea_10]; rfl).trans ((show a_9 63 = a_7 63 from by rw [← ea_9]; rfl).trans (show a_7 63 = a_6 63 from by rw [← ea_7]; rfl))))))))) i).trans ((cp_z (n := 10) (show a_6 63 = _ from by rw [← ea_6]; rfl) (by decide +kernel) (by decide +kernel) (by decide +kernel) i hi).trans (congrFun ((show a_5 5 = a_4 5 from by rw [← ea_5]; rfl).trans ((show a_4 5 = a_3 5 from by rw [← ea_4]; rfl).trans (show a_3 5 = a 5 from by rw [← ea_3]; rfl))) i))) (fun i hi => (congrFun ((show a_17 64 = a_16 64 from by rw [← ea_17]; rfl).trans ((show a_16 64 = a_15 64 from by rw [← ea_16]; rfl).trans ((show a_15 64 = a_13 64 from by rw [← ea_15]; rfl).trans ((show a_13 64 = a_12 64 from by rw [← ea_13]; rfl).trans ((show a_12 64 = a_11 64 from by rw [← ea_12]; rfl).trans ((show a_11 64 = a_10 64 from by rw [← ea_11]; rfl).trans ((show a_10 64 = a_9 64 from by rw [← ea_10]; rfl).trans (show a_9 64 = a_7 64 from by rw [← ea_9]; rfl)))))))) i).trans ((cp_z (n := 10) (show a_7 64 = _ from by rw [← ea_7]; rfl) (by decide +kernel) (by decide +kernel) (by decide +kernel) i hi).trans (congrFun ((show a_6 6 = a_5 6 from by rw [← ea_6]; rfl).trans ((show a_5 6 = a_4 6 from by rw [← ea_5]; rfl).trans ((show a_4 6 = a_3 6 from by rw [← ea_4]; rfl).trans (show a_3 6 = a 6 from by rw [← ea_3]; rfl)))) i))) (fun i hi => (congrFun ((show a_17 65 = a_16 65 from by rw [← ea_17]; rfl).trans ((show a_16 65 = a_15 65 from by rw [← ea_16]; rfl).trans ((show a_15 65 = a_13 65 from by rw [← ea_15]; rfl).trans ((show a_13 65 = a_12 65 from by rw [← ea_13]; rfl).trans ((show a_12 65 = a_11 65 from by rw [← ea_12]; rfl).trans ((show a_11 65 = a_10 65 from by rw [← ea_11]; rfl).trans (show a_10 65 = a_9 65 from by rw [← ea_10]; rfl))))))) i).trans ((cp_z (n := 6) (show a_9 65 = _ from by rw [← ea_9]; rfl) (by decide +kernel) (by decide +kernel) (by decide +kernel) i hi).trans (congrFun ((show a_7 7 = a_6 7 from by rw [← ea_7]; rfl).trans ((show a_6 7 = a_5 7 from by rw [← ea_6]; rfl).trans ((show a_5 7 = a_4 7 from by rw [← ea_5]; rfl).trans ((show a_4 7 = a_3 7 from by rw [← ea_4]; rfl).trans (show a_3 7 = a 7 from by rw [← ea_3]; rfl))))) i))) (fun i hi => (congrFun ((show a_17 66 = a_16 66 from by rw [← ea_17]; rfl).trans ((show a_16 66 = a_15 66 from by rw [← ea_16]; rfl).trans ((show a_15 66 = a_13 66 from by rw [← ea_15]; rfl).trans ((show a_13 66 = a_12 66 from by rw [← ea_13]; rfl).trans ((show a_12 66 = a_11 66 from by rw [← ea_12]; rfl).trans (show a_11 66 = a_10 66 from by rw [← ea_11]; rfl)))))) i).trans ((cp_z (n := 6) (show a_10 66 = _ from by rw [← ea_10]; rfl) (by decide +kernel) (by decide +kernel) (by decide +kernel) i hi).trans (congrFun ((show a_9 8 = a_7 8 from by rw [← ea_9]; rfl).trans ((show a_7 8 = a_6 8 from by rw [← ea_7]; rfl).trans ((show a_6 8 = a_5 8 from by rw [← ea_6]; rfl).trans ((show a_5 8 = a_4 8 from by rw [← ea_5]; rfl).trans ((show a_4 8 = a_3 8 from by rw [← ea_4]; rfl).trans (show a_3 8 = a 8 from by rw [← ea_3]; rfl)))))) i))) (fun i hi => (congrFun ((show a_17 67 = a_16 67 from by rw [← ea_17]; rfl).trans ((show a_16 67 = a_15 67 from by rw [← ea_16]; rfl).trans ((show a_15 67 = a_13 67 from by rw [← ea_15]; rfl).trans ((show a_13 67 = a_12 67 from by rw [← ea_13]; rfl).trans (show a_12 67 = a_11 67 from by rw [← ea_12]; rfl))))) i).trans ((cp_z (n := 6) (show a_11 67 = _ from by rw [← ea_11]; rfl) (by decide +kernel) (by decide +kernel) (by decide +kernel) i hi).trans (congrFun ((show a_10 9 = a_9 9 from by rw [← ea_10]; rfl).trans ((show a_9 9 = a_7 9 from by rw [← ea_9]; rfl).trans ((show a_7 9 = a_6 9 from by rw [← ea_7]; rfl).trans ((show a_6 9 = a_5 9 from by rw [← ea_6]; rfl).trans ((show a_5 9 = a_4 9 from by rw [← ea_5]; rfl).trans ((show a_4 9 = a_3 9 from by rw [← ea_4]; rfl).trans (show a_3 9 = a 9 from by rw [← ea_3]; rfl))))))) i))) (fun i hi => (congrFun ((show a_17 68 = a_16 68 from by rw [← ea_17]; rfl).trans ((show a_16 68 = a_15 68 from by rw [← ea_16]; rfl).trans ((show a_15 68 = a_13 68 from by rw [← ea_15]; rfl).trans (show a_13 68 = a_12 68 from by rw [← ea_13]; rfl)))) i).trans ((cp_z (n := 6) (show a_12 68 = _ from by rw [← ea_12]; rfl) (by decide +kernel) (by decide +kernel) (by decide +kernel) i hi).trans (congrFun ((show a_11 10 = a_10 10 from by rw [← ea_11]; rfl).trans ((show a_10 10 = a_9 10 from by rw [← ea_10]; rfl).trans ((show a_9 10 = a_7 10 from by rw [← ea_9]; rfl).trans ((show a_7 10 = a_6 10 from by rw [← ea_7]; rfl).trans ((show a_6 10 = a_5 10 from by rw [← ea_6]; rfl).trans ((show a_5 10 = a_4 10 from by rw [← ea_5]; rfl).trans ((show a_4 10 = a_3 10 from by rw [← ea_4]; rfl).trans (show a_3 10 = a 10 from by rw [← ea_3]; rfl)))))))) i))) (fun i hi => (congrFun ((show a_17 69 = a_16 69 from by rw [← ea_17]; rfl).trans ((show a_16 69 = a_15 69 from by rw [← ea_16]; rfl).trans (show a_15 69 = a_13 69 from by rw [← ea_15]; rfl))) i).trans ((cp_z (n := 4) (show a_13 69 = _ from by rw [← ea_13]; rfl) (by decide +kernel) (by decide +kernel) (by decide +kernel) i hi).trans (congrFun ((show a_12 11 = a_11 11 from by rw [← ea_12]; rfl).trans ((show a_11 11 = a_10 11 from by rw [← ea_11]; rfl).trans ((show a_10 11 = a_9 11 from by rw [← ea_10]; rfl).trans ((show a_9 11 = a_7 11 from by rw [← ea_9]; rfl).trans ((show a_7 11 = a_6 11 from by rw [← ea_7]; rfl).trans ((show a_6 11 = a_5 11 from by rw [← ea_6]; rfl).trans ((show a_5 11 = a_4 11 from by rw [← ea_5]; rfl).trans ((show a_4 11 = a_3 11 from by rw [← ea_4]; rfl).trans (show a_3 11 = a 11 from by rw [← ea_3]; rfl))))))))) i))) (fun i hi => (congrFun ((show a_17 70 = a_16 70 from by rw [← ea_17]; rfl).trans (show a_16 70 = a_15 70 from by rw [← ea_16]; rfl)) i).trans ((cp_z (n := 8) (show a_15 70 = _ from by rw [← ea_15]; rfl) (by decide +kernel) (by decide +kernel) (by decide +kernel) i hi).trans (congrFun ((show a_13 12 = a_12 12 from by rw [← ea_13]; rfl).trans ((show a_12 12 = a_11 12 from by rw [← ea_12]; rfl).trans ((show a_11 12 = a_10 12 from by rw [← ea_11]; rfl).trans ((show a_10 12 = a_9 12 from by rw [← ea_10]; rfl).trans ((show a_9 12 = a_7 12 from by rw [← ea_9]; rfl).trans ((show a_7 12 = a_6 12 from by rw [← ea_7]; rfl).trans ((show a_6 12 = a_5 12 from by rw [← ea_6]; rfl).trans ((show a_5 12 = a_4 12 from by rw [← ea_5]; rfl).trans ((show a_4 12 = a_3 12 from by rw [← ea_4]; rfl).trans (show a_3 12 = a 12 from by rw [← ea_3]; rfl)))))))))) i))) (fun i hi => (congrFun (show a_17 71 = a_16 71 from by rw [← ea_17]; rfl) i).trans ((cp_z (n := 8) (show a_16 71 = _ from by rw [← ea_16]; rfl) (by decide +kernel) (by decide +kernel) (by decide +kernel) i hi).trans (congrFun ((show a_15 13 = a_13 13 from by rw [← ea_15]; rfl).trans ((show a_13 13 = a_12 13 from by rw [← ea_13]; rfl).trans ((show a_12 13 = a_11 13 from by rw [← ea_12]; rfl).trans ((show a_11 13 = a_10 13 from by rw [← ea_11]; rfl).trans ((show a_10 13 = a_9 13 from by rw [← ea_10]; rfl).trans ((show a_9 13 = a_7 13 from by rw [← ea_9]; rfl).trans ((show a_7 13 = a_6 13 from by rw [← ea_7]; rfl).trans ((show a_6 13 = a_5 13 from by rw [← ea_6]; rfl).trans ((show a_5 13 = a_4 13 from by rw [← ea_5]; rfl).trans ((show a_4 13 = a_3 13 from by rw [← ea_4]; rfl).trans (show a_3 13 = a 13 from by rw [← ea_3]; rfl))))))))))) i))) (fun i hi => (congrFun rfl i).trans ((cp_z (n := 8) (show a_17 72 = _ from by rw [← ea_17]; rfl) (by decide +kernel) (by decide +kernel) (by decide +kernel) i hi).trans (congrFun ((show a_16 14 = a_15 14 from by rw [← ea_16]; rfl).trans ((show a_15 14 = a_13 14 from by rw [← ea_15]; rfl).trans ((show a_13 14 = a_12 14 from by rw [← ea_13]; rfl).trans ((show a_12 14 = a_11 14 from by rw [← ea_12]; rfl).trans ((show a_11 14 = a_10 14 from by rw [← ea_11]; rfl).trans ((show a_10 14 = a_9 14 from by rw [← ea_10]; rfl).trans ((show a_9 14 = a_7 14 from by rw [← ea_9]; rfl).trans ((show a_7 14 = a_6 14 from by rw [← ea_7]; rfl).trans ((show a_6 14 = a_5 14 from by rw [← ea_6]; rfl).trans ((show a_5 14 = a_4 14 from by rw [← ea_5]; rfl).trans ((show a_4 14 = a_3 14 from by rw [← ea_4]; rfl).trans (show a_3 14 = a 14 from by rw [← ea_3]; rfl)))))))))))) i)))), (by have w9 := hvlp20_1; rw [show nn = 6 by have w1 := hvlp20_0; have w2 := (b25).1; have w3 := hvlp20_2; omega] at w9; exact w9)⟩
      · have h28 := (kc_nle c23)
        have b29 : kb 0 y18 5 := kr_lt1 h28 b22 kc_6 (by decide)
        refine lv_aload_n hx hb dX7_copyFrom_226 rfl (lv_at hl 1 rfl) ?_
        refine va_get (D := D) (ci := 7) (v := .ref (r 73)) (C := RX7) (T := TX7) (N := 20) hx hb hg inC7 hown hK hP 59 rfl rfl 16 (by decide) (hg _ wt1_147) (fun _ h9 => h9) rfl dX7_copyFrom_227 ?_
        refine lv_iload_n hx hb dX7_copyFrom_230 rfl (lv_at hl 0 rfl) ?_
        refine lv_aload_n hx hb dX7_copyFrom_231 rfl (lv_at hl 2 rfl) ?_
        refine va_get (D := D) (ci := 7) (v := .ref (r 15)) (C := RX7) (T := TX7) (N := 20) hx hb hg inC7 hown hK hP 1 rfl rfl 16 (by decide) (hg _ wt1_147) (fun _ h9 => h9) rfl dX7_copyFrom_232 ?_
        refine lv_iload_n hx hb dX7_copyFrom_235 rfl (lv_at hl 0 rfl) ?_
        refine va_aldq hx hb hK hP 15 5 rfl rfl (kb_in b29 (by decide) (by decide)) dX7_copyFrom_236 ?_
        rcases hG 15 (y18.toNatClampNeg) (by decide) with hn31 | hn31
        · refine k_topn hn31 ?_
          refine va_astqN hx hb hK hP hD hS 73 5 rfl rfl (kb_in b29 (by decide) (by decide)) dX7_copyFrom_237 (fun H locs hP hD hS => ?_)
          have hP : va_P D vwCl (xX K r f_14 a_17 (G19.1, va_up G19.2 73 (va_up (G19.2 73) y18.toNatClampNeg none)) tx) H := hP
          have hD : va_D A (xX K r f_14 a_17 (G19.1, va_up G19.2 73 (va_up (G19.2 73) y18.toNatClampNeg none)) tx) := hD
          refine k_gen (P := fun z => va_P D vwCl (xX K r f_14 a_17 z tx) H ∧ va_D A (xX K r f_14 a_17 z tx) ∧ (xI f_14 a_17) ∧ (gOK K z.2 tt) ∧ (xEk ([1888, 1894, 1900, 1905, 1906], [60, 61, 62, 63, 64, 65, 66, 67, 68, 69, 70, 71, 72], [73]) f a g f_14 a_17 z)) ((G19.1, va_up G19.2 73 (va_up (G19.2 73) y18.toNatClampNeg none))) ⟨hP, hD, hI, (gOK_n hG _ _ _ (Or.inl rfl)), (xEk_q hE rfl)⟩ (fun g_32 eg_32 hq => ?_)
          obtain ⟨hP, hD, hI, hG, hE⟩ := hq
          obtain ⟨t33, et33⟩ : ∃ z : Int32, z = y18 + Int32.ofInt 1 := ⟨_, rfl⟩
          have qt33 : t33.toInt = y18.toInt + 1 := by rw [et33]; exact km_inc b29 (by decide) (by decide)
          have b34 : kb 1 t33 6 := kb_inc (k := 1) qt33 b29
          refine lv_iinc (v := t33) (lv' := [(2, .int t33), (0, .ref (r 59)), (1, .ref (r 1))]) hx hb dX7_copyFrom_238 hl (k := 0) rfl et33.symm (by decide) rfl (fun ls hl => ?_)
          refine lv_goto (tgt := 220) hx hb dX7_copyFrom_241 (by decide) ?_
          exact ihlp20 (nn + 1) g_32 _ _ _ t33 (km_up hmlp20 qt33) hI hG hE (kb_w b34 (by decide) (by decide)) (by have w1 := hvlp20_0; have w2 := qt33; omega) (rf_s (ix := y18.toNatClampNeg) hvlp20_1 (fun i => by rw [← eg_32]; rfl) (cl_nat hvlp20_0) (by rw [← congrFun (show G19.2 15 = g.2 15 from hE9.2.2 15 rfl) nn, ← cl_nat hvlp20_0]; exact hn31.symm)) (by have w1 := hvlp20_0; have w2 := (b29).2; omega) hP hD hS (lv_sub hl [0, 1, 2] rfl)
        · obtain ⟨t30, ht30, hn31⟩ := hn31
          refine k_tops hn31 ?_
          obtain ⟨jt30_0, hjt30_0⟩ := tIn_at (tIn_w hT ht30) (k := 0) rfl
          obtain ⟨jt30_1, hjt30_1⟩ := tIn_at (tIn_w hT ht30) (k := 1) rfl
          obtain ⟨jt30_2, hjt30_2⟩ := tIn_at (tIn_w hT ht30) (k := 2) rfl
          obtain ⟨jt30_3, hjt30_3⟩ := tIn_at (tIn_w hT ht30) (k := 3) rfl
          obtain ⟨jt30_4, hjt30_4⟩ := tIn_at (tIn_w hT ht30) (k := 4) rfl
          have hnt30 : (nI t30.2.2.2).toInt = (t30.2.2.2 : Int) := kn_to (by have w1 := ht30.1; omega)
          refine va_astq hx hb hK hP hD hS 73 5 (jt30_0 + 95) 10 rfl rfl hjt30_0 rfl (kb_in b29 (by decide) (by decide)) dX7_copyFrom_237 (fun H locs hP hD hS => ?_)
          have hP : va_P D vwCl (xX K r f_14 a_17 (G19.1, va_up G19.2 73 (va_up (G19.2 73) y18.toNatClampNeg (some (t30.1 0)))) tx) H := hP
          have hD : va_D A (xX K r f_14 a_17 (G19.1, va_up G19.2 73 (va_up (G19.2 73) y18.toNatClampNeg (some (t30.1 0)))) tx) := hD
          refine k_gen (P := fun z => va_P D vwCl (xX K r f_14 a_17 z tx) H ∧ va_D A (xX K r f_14 a_17 z tx) ∧ (xI f_14 a_17) ∧ (gOK K z.2 tt) ∧ (xEk ([1888, 1894, 1900, 1905, 1906], [60, 61, 62, 63, 64, 65, 66, 67, 68, 69, 70, 71, 72], [73]) f a g f_14 a_17 z)) ((G19.1, va_up G19.2 73 (va_up (G19.2 73) y18.toNatClampNeg (some (t30.1 0))))) ⟨hP, hD, hI, (gOK_n hG _ _ _ (Or.inr ⟨_, ht30, rfl⟩)), (xEk_q hE rfl)⟩ (fun g_35 eg_35 hq => ?_)
          obtain ⟨hP, hD, hI, hG, hE⟩ := hq
          obtain ⟨t36, et36⟩ : ∃ z : Int32, z = y18 + Int32.ofInt 1 := ⟨_, rfl⟩
          have qt36 : t36.toInt = y18.toInt + 1 := by rw [et36]; exact km_inc b29 (by decide) (by decide)
          have b37 : kb 1 t36 6 := kb_inc (k := 1) qt36 b29
          refine lv_iinc (v := t36) (lv' := [(2, .int t36), (0, .ref (r 59)), (1, .ref (r 1))]) hx hb dX7_copyFrom_238 hl (k := 0) rfl et36.symm (by decide) rfl (fun ls hl => ?_)
          refine lv_goto (tgt := 220) hx hb dX7_copyFrom_241 (by decide) ?_
          exact ihlp20 (nn + 1) g_35 _ _ _ t36 (km_up hmlp20 qt36) hI hG hE (kb_w b37 (by decide) (by decide)) (by have w1 := hvlp20_0; have w2 := qt36; omega) (rf_s (ix := y18.toNatClampNeg) hvlp20_1 (fun i => by rw [← eg_35]; rfl) (cl_nat hvlp20_0) (by rw [← congrFun (show G19.2 15 = g.2 15 from hE9.2.2 15 rfl) nn, ← cl_nat hvlp20_0]; exact hn31.symm)) (by have w1 := hvlp20_0; have w2 := (b29).2; omega) hP hD hS (lv_sub hl [0, 1, 2] rfl)
  exact lp20 (7) 0 g _ _ _ 0 (by have h1 := (kc_0); unfold kb at h1; omega) hI hG hE (kb_w kc_0 (by decide) (by decide)) (by decide +kernel) (fun i h => absurd h (Nat.not_lt_zero i)) (Nat.zero_le _) hP hD hS (lv_sub hl [0, 1, 2] rfl)
set_option maxHeartbeats 4000000 in
set_option maxRecDepth 100000 in
theorem z_reckonChainsP  (l : Launch) {D : va_G} {K : Nat → ClassId} (r : Nat → Nat) (f : Nat → Int32) (a : Nat → Nat → Int32) (g : xG) (tx tt : va_W) (hT : ∀ c ∈ tt, c ∈ tx) (hI : xI f a) (hG : gOK K g.2 tt)   (k : Nat → Int32) (hVw : sV 1888 60 f a k) (hkk : kK k)   : kIG l yX7_reckonChains (Cond.code yX7_reckonChains cX7_reckonChains 5 (some .int) :: kG) (rmD 2 0 0) D K [.ref (r 59)] (xX K r f a g tx) (fun v (u : xS) => kb (-2147483648) v 2147483647 ∧ xI u.1 u.2.1 ∧ gOK K u.2.2.2 tt ∧ xEk ([], [79], []) f a g u.1 u.2.1 u.2.2 ∧ v.toInt = chX (chR k (kPn k) (kPn k)) (kPn k) ∧ (∀ i, i < kPn k → (u.2.1 79 i).toInt = chR k (kPn k) (kPn k) i)) (fun u => xX K r u.1 u.2.1 u.2.2 tx) 0 0 := by
  refine kIE.of (cc := cX7_reckonChains) (maxL := 5) (ret := (some .int)) (by decide) rfl (Nat.le_of_ble_eq_true rfl) ?_
  intro p e s m below meth c A hx hb hr hml hown hts hlocks hnm hK hP hD hS hA hV ls hl
  have hE : xEk ([], [79], []) f a g f a g := xEk_rf
  have hg : ∀ w ∈ kG, w.before _ s = true := fun w h => hts w (List.mem_cons_of_mem _ h)
  have hown : s.vm.findClass RX7 = some m.cls := hown
  have hl : lv_has ls 5 [(0, .ref (r 59))] := hl
  refine lv_iconst (v := 0) hx hb dX7_reckonChains_0 (by decide) ?_
  refine lv_istore_n (lv' := [(1, .int 0), (0, .ref (r 59))]) hx hb dX7_reckonChains_1 rfl hl (by decide) rfl (fun ls hl => ?_)
  refine lv_aload_n hx hb dX7_reckonChains_2 rfl (lv_at hl 1 rfl) ?_
  refine va_get (D := D) (ci := 7) (v := .int (f 1888)) (C := RX7) (T := TX7) (N := 20) hx hb hg inC7 hown hK hP 59 rfl rfl 0 (by decide) (hg _ wt1_79) (fun _ h9 => h9) rfl dX7_reckonChains_3 ?_
  refine lv_topi (fun t1 et1 => ?_)
  have b2 : kb 0 t1 10 := kb_eq et1 (fI_at hI.1 1888 (by decide) (by decide))
  have kvt1 : t1 = k 102 := et1.trans ((sv_parts hVw))
  have kvit1 : t1.toInt = (k 102).toInt := congrArg Int32.toInt kvt1
  have b3 : kb 0 t1 10 := kb_eq kvt1 (kK_r hkk 102 _ _ (by decide) (by decide))
  refine lv_bipush (v := 10) hx hb dX7_reckonChains_6 (by decide) ?_
  refine va_mmin hx hb (hml.trans hl.1.symm) hown (hg _ wt3_51) (hg _ wt3_52) (hg _ wt1_9) (hg _ wt3_53) (by decide) (Nat.le_of_ble_eq_true rfl) (by decide) (by decide) dX7_reckonChains_8 ?_
  refine lv_topi (fun t4 et4 => ?_)
  have b5 : kb 0 t4 10 := kb_eq et4 (kb_mn b3 kc_10 (by decide) (by decide) (by decide) (by decide))
  refine lv_iconst (v := 1) hx hb dX7_reckonChains_11 (by decide) ?_
  refine lv_isub hx hb dX7_reckonChains_12 ?_
  refine lv_topi (fun t6 et6 => ?_)
  have b7 : kb (-1) t6 9 := kb_eq et6 (kb_sub b5 kc_1 (by decide) (by decide))
  have qt6 : t6.toInt = t4.toInt - 1 := by rw [et6]; exact kt_subc b5 kc_1 (by decide) (by decide)
  refine lv_istore_n (lv' := [(2, .int t6), (1, .int 0), (0, .ref (r 59))]) hx hb dX7_reckonChains_13 rfl hl (by decide) rfl (fun ls hl => ?_)
  have lp11 : ∀ (n12 : Nat) (mq : Nat) (B10 : Nat → Nat → Int32) (H : Heap) (locs : List Loc) (ls : Array Slot) (y8 : Int32) (y9 : Int32), (y8.toInt + 1 < (n12 : Int)) → (xI f B10) → (gOK K g.2 tt) → (xEk ([], [79], []) f a g f B10 g) → (kb (-1) y8 9) → (kb 0 y9 2000) → (y8.toInt = (kPn k : Int) - 1 - (mq : Int)) → (mq ≤ kPn k) → (∀ i, kPn k - mq ≤ i → i < kPn k → (B10 79 i).toInt = chR k (kPn k) mq i) → (y9.toInt = chY (chR k (kPn k) (kPn k)) (kPn k) mq) → va_P D vwCl (xX K r f B10 g tx) H → va_D A (xX K r f B10 g tx) → va_S A s.heap H locs → lv_has ls 5 [(2, .int y8), (1, .int y9), (0, .ref (r 59))] → W p l e (rmD 2 0 0) s m ([.ref (r 59)] : List Value).toArray below meth c H locs 0 0 (kQi D (tysK K) (fun v (u : xS) => kb (-2147483648) v 2147483647 ∧ xI u.1 u.2.1 ∧ gOK K u.2.2.2 tt ∧ xEk ([], [79], []) f a g u.1 u.2.1 u.2.2 ∧ v.toInt = chX (chR k (kPn k) (kPn k)) (kPn k) ∧ (∀ i, i < kPn k → (u.2.1 79 i).toInt = chR k (kPn k) (kPn k) i)) (fun u => xX K r u.1 u.2.1 u.2.2 tx) A below ([.ref (r 59)] : List Value).toArray s 0 0) (F0 m 14 ls []) := by
    intro n12
    induction n12 with
    | zero =>
      intro mq B10  H locs ls y8 y9 hmlp11 hI hG hE b13 b14 hvlp11_0 hvlp11_1 hvlp11_2 hvlp11_3 hP hD hS hl
      exact (by have h1 := b13.1; have h2 := hmlp11; omega : False).elim
    | succ n12 ihlp11 =>
      intro mq B10  H locs ls y8 y9 hmlp11 hI hG hE b13 b14 hvlp11_0 hvlp11_1 hvlp11_2 hvlp11_3 hP hD hS hl
      have hNb := kPn_b hkk
      have hch := hvlp11_2
      have hlo := hvlp11_3
      refine lv_iload_n hx hb dX7_reckonChains_14 rfl (lv_at hl 0 rfl) ?_
      refine lv_if_lt (tgt := 134) hx hb dX7_reckonChains_15 (by decide) (fun c15 => ?_) (fun c15 => ?_)
      · have h16 := (kc_lt c15)
        have b17 : kb (-1) y8 (-1) := kr_lt1 h16 b13 kc_0 (by decide)
        refine lv_iload_n hx hb dX7_reckonChains_134 rfl (lv_at hl 1 rfl) ?_
        exact kI_ret (v := y9) hx hb hr hlocks rfl hK hS dX7_reckonChains_135 (f, B10, g) hP hD ⟨(kb_w b14 (by decide) (by decide)), hI, hG, hE, (by have hm : mq = kPn k := (by have w1 := hvlp11_0; have w2 := kc_lt c15; have w3 : (0 : Int32).toInt = 0 := (by decide +kernel); have w4 := hvlp11_1; omega); rw [chXY, ← hm]; rw [← hm] at hlo; exact hlo), (fun i hi => by have hm : mq = kPn k := (by have w1 := hvlp11_0; have w2 := kc_lt c15; have w3 : (0 : Int32).toInt = 0 := (by decide +kernel); have w4 := hvlp11_1; omega); rw [hm] at hch; exact hch i (by omega) hi)⟩
      · have h18 := (kc_nlt c15)
        have b19 : kb 0 y8 9 := kr_le2 h18 kc_0 b13
        have hmn : mq < kPn k := by have w1 := hvlp11_0; have w2 := kc_nlt c15; have w3 : (0 : Int32).toInt = 0 := (by decide +kernel); omega
        have hp1 : y8.toInt = ((kPn k - 1 - mq : Nat) : Int) := by have w1 := hvlp11_0; omega
        refine lv_iconst (v := 0) hx hb dX7_reckonChains_18 (by decide) ?_
        refine lv_istore_n (lv' := [(3, .int 0), (2, .int y8), (1, .int y9), (0, .ref (r 59))]) hx hb dX7_reckonChains_19 rfl hl (by decide) rfl (fun ls hl => ?_)
        refine lv_iload_n hx hb dX7_reckonChains_20 rfl (lv_at hl 1 rfl) ?_
        refine lv_iconst (v := 1) hx hb dX7_reckonChains_21 (by decide) ?_
        refine lv_iadd hx hb dX7_reckonChains_22 ?_
        refine lv_topi (fun t20 et20 => ?_)
        have b21 : kb 1 t20 10 := kb_eq et20 (kb_add b19 kc_1 (by decide) (by decide))
        have qt20 : t20.toInt = y8.toInt + 1 := by rw [et20]; exact kt_addc b19 kc_1 (by decide) (by decide)
        refine lv_istore (lv' := [(4, .int t20), (3, .int 0), (2, .int y8), (1, .int y9), (0, .ref (r 59))]) hx hb dX7_reckonChains_23 hl (by decide) rfl (fun ls hl => ?_)
        have lp24 : ∀ (n25 : Nat) (j : Nat) (H : Heap) (locs : List Loc) (ls : Array Slot) (y22 : Int32) (y23 : Int32), (10 < y22.toInt + (n25 : Int)) → (kb 1 y22 10) → (y22.toInt = ((kPn k - mq : Nat) : Int) + (j : Int)) → (y23.toInt = chM k (chR k (kPn k) mq) (kPn k - 1 - mq) j) → (j ≤ mq) → va_P D vwCl (xX K r f B10 g tx) H → va_D A (xX K r f B10 g tx) → va_S A s.heap H locs → lv_has ls 5 [(4, .int y22), (3, .int y23), (2, .int y8), (1, .int y9), (0, .ref (r 59))] → W p l e (rmD 2 0 0) s m ([.ref (r 59)] : List Value).toArray below meth c H locs 0 0 (kQi D (tysK K) (fun v (u : xS) => kb (-2147483648) v 2147483647 ∧ xI u.1 u.2.1 ∧ gOK K u.2.2.2 tt ∧ xEk ([], [79], []) f a g u.1 u.2.1 u.2.2 ∧ v.toInt = chX (chR k (kPn k) (kPn k)) (kPn k) ∧ (∀ i, i < kPn k → (u.2.1 79 i).toInt = chR k (kPn k) (kPn k) i)) (fun u => xX K r u.1 u.2.1 u.2.2 tx) A below ([.ref (r 59)] : List Value).toArray s 0 0) (F0 m 25 ls []) := by
          intro n25
          induction n25 with
          | zero =>
            intro j  H locs ls y22 y23 hmlp24 b26 hvlp24_0 hvlp24_1 hvlp24_2 hP hD hS hl
            exact (by have h1 := b26.2; have h2 := hmlp24; omega : False).elim
          | succ n25 ihlp24 =>
            intro j  H locs ls y22 y23 hmlp24 b26 hvlp24_0 hvlp24_1 hvlp24_2 hP hD hS hl
            have hi3 := hvlp24_0
            have hi2 := hvlp24_1
            have hi4 := hvlp24_2
            refine lv_iload hx hb dX7_reckonChains_25 (lv_at hl 0 rfl) ?_
            refine lv_aload_n hx hb dX7_reckonChains_27 rfl (lv_at hl 4 rfl) ?_
            refine va_get (D := D) (ci := 7) (v := .int (f 1888)) (C := RX7) (T := TX7) (N := 20) hx hb hg inC7 hown hK hP 59 rfl rfl 0 (by decide) (hg _ wt1_79) (fun _ h9 => h9) rfl dX7_reckonChains_28 ?_
            refine k_top (z := t1) et1.symm ?_
            refine lv_icmp_ge (tgt := 97) hx hb dX7_reckonChains_31 (by decide) (fun c27 => ?_) (fun c27 => ?_)
            · have h28 := (kc_le c27)
              have hjm : j = mq := by have w1 := hi3; have w4 := hNb.2; have w5 := hi4; have w6 := hNb.1; have w2 := kc_le c27; have w3 := kvit1; omega
              rw [hjm] at hi2
              have hcb := chM_b (k := k) (R := chR k (kPn k) mq) (p := kPn k - 1 - mq) (B := 990) (by decide) (fun q => by have w1 := chR_b hkk hNb.1 mq (by omega) q; omega) mq
              have b29 : kb 0 y23 990 := ⟨by omega, by omega⟩
              refine lv_aload_n hx hb dX7_reckonChains_97 rfl (lv_at hl 4 rfl) ?_
              refine va_get (D := D) (ci := 7) (v := .ref (r 74)) (C := RX7) (T := TX7) (N := 20) hx hb hg inC7 hown hK hP 59 rfl rfl 19 (by decide) (hg _ wt1_154) (fun _ h9 => h9) rfl dX7_reckonChains_98 ?_
              refine va_get (D := D) (ci := 8) (v := .ref (r 79)) (C := RX8) (T := TX8) (N := 5) hx hb hg inC8 hown hK hP 74 rfl rfl 4 (by decide) (hg _ wt1_65) (fun _ h9 => h9) rfl dX7_reckonChains_101 ?_
              refine lv_iload_n hx hb dX7_reckonChains_104 rfl (lv_at hl 2 rfl) ?_
              refine lv_aload_n hx hb dX7_reckonChains_105 rfl (lv_at hl 4 rfl) ?_
              refine va_get (D := D) (ci := 7) (v := .ref (r 64)) (C := RX7) (T := TX7) (N := 20) hx hb hg inC7 hown hK hP 59 rfl rfl 5 (by decide) (hg _ wt1_97) (fun _ h9 => h9) rfl dX7_reckonChains_106 ?_
              refine lv_iload_n hx hb dX7_reckonChains_109 rfl (lv_at hl 2 rfl) ?_
              refine va_iald hx hb hK hP 64 0 rfl rfl (kb_in b19 (by decide) (by decide)) dX7_reckonChains_110 ?_
              refine lv_topi (fun t30 et30 => ?_)
              have kvt30 : t30 = k (0 + y8.toNatClampNeg) := et30.trans ((congrFun (hE.2.1 64 rfl) (y8.toNatClampNeg)).trans (sv_left hVw (kb_clt b19 (by decide) (by decide))))
              have b31 : kb 0 t30 99 := kb_eq et30 (et30 ▸ kb_eq kvt30 (kK_s hkk 0 10 _ _ (by decide) (by decide) (kb_clt b19 (by decide) (by decide))))
              refine lv_iload_n hx hb dX7_reckonChains_111 rfl (lv_at hl 1 rfl) ?_
              refine lv_iadd hx hb dX7_reckonChains_112 ?_
              refine lv_topi (fun t32 et32 => ?_)
              have b33 : kb 0 t32 1089 := kb_eq et32 (kb_add b31 b29 (by decide) (by decide))
              have qt32 : t32.toInt = t30.toInt + y23.toInt := by rw [et32]; exact kt_add b31 b29 (by decide) (by decide)
              refine va_iast hx hb hK hP hD hS 79 0 rfl rfl (kb_in b19 (by decide) (by decide)) dX7_reckonChains_113 (fun H locs hP hD hS => ?_)
              have hP : va_P D vwCl (xX K r f (va_up B10 79 (upd (B10 79) y8.toNatClampNeg t32)) g tx) H := hP
              have hD : va_D A (xX K r f (va_up B10 79 (upd (B10 79) y8.toNatClampNeg t32)) g tx) := hD
              refine k_gen (P := fun z => va_P D vwCl (xX K r f z g tx) H ∧ va_D A (xX K r f z g tx) ∧ (xI f z) ∧ (gOK K g.2 tt) ∧ (xEk ([], [79], []) f a g f z g)) (va_up B10 79 (upd (B10 79) y8.toNatClampNeg t32)) ⟨hP, hD, (xI_a hI (by decide)), hG, (xEk_a hE rfl)⟩ (fun a_34 ea_34 hq => ?_)
              obtain ⟨hP, hD, hI, hG, hE⟩ := hq
              refine lv_iload_n hx hb dX7_reckonChains_114 rfl (lv_at hl 3 rfl) ?_
              refine lv_aload_n hx hb dX7_reckonChains_115 rfl (lv_at hl 4 rfl) ?_
              refine va_get (D := D) (ci := 7) (v := .ref (r 74)) (C := RX7) (T := TX7) (N := 20) hx hb hg inC7 hown hK hP 59 rfl rfl 19 (by decide) (hg _ wt1_154) (fun _ h9 => h9) rfl dX7_reckonChains_116 ?_
              refine va_get (D := D) (ci := 8) (v := .ref (r 79)) (C := RX8) (T := TX8) (N := 5) hx hb hg inC8 hown hK hP 74 rfl rfl 4 (by decide) (hg _ wt1_65) (fun _ h9 => h9) rfl dX7_reckonChains_119 ?_
              refine lv_iload_n hx hb dX7_reckonChains_122 rfl (lv_at hl 2 rfl) ?_
              refine va_iald hx hb hK hP 79 0 rfl rfl (kb_in b19 (by decide) (by decide)) dX7_reckonChains_123 ?_
              refine k_top (z := t32) (show a_34 79 y8.toNatClampNeg = t32 from by rw [← ea_34]; exact (pk_us (f := B10 79) (k := y8.toNatClampNeg) (x := t32))) ?_
              refine va_mmax hx hb (hml.trans hl.1.symm) hown (hg _ wt3_54) (hg _ wt2_38) (hg _ wt1_9) (hg _ wt2_39) (by decide) (Nat.le_of_ble_eq_true rfl) (by decide) (by decide) dX7_reckonChains_124 ?_
              refine lv_topi (fun t35 et35 => ?_)
              have b36 : kb 0 t35 2000 := kb_eq et35 (kb_mx b14 b33 (by decide) (by decide) (by decide) (by decide))
              refine lv_istore_n (lv' := [(1, .int t35), (4, .int y22), (3, .int y23), (2, .int y8), (0, .ref (r 59))]) hx hb dX7_reckonChains_127 rfl hl (by decide) rfl (fun ls hl => ?_)
              obtain ⟨t37, et37⟩ : ∃ z : Int32, z = y8 + Int32.ofInt (-1) := ⟨_, rfl⟩
              have qt37 : t37.toInt = y8.toInt - 1 := by rw [et37]; exact km_dec b19 (by decide)
              have b38 : kb (-1) t37 8 := kb_inc (k := (-1)) qt37 b19
              refine lv_iinc (v := t37) (lv' := [(2, .int t37), (1, .int t35), (4, .int y22), (3, .int y23), (0, .ref (r 59))]) hx hb dX7_reckonChains_128 hl (k := 3) rfl et37.symm (by decide) rfl (fun ls hl => ?_)
              refine lv_goto (tgt := 14) hx hb dX7_reckonChains_131 (by decide) ?_
              exact ihlp11 (mq + 1) a_34 _ _ _ t37 t35 (km_dn hmlp11 qt37) hI hG hE (kb_w b38 (by decide) (by decide)) b36 (by have w1 := hvlp11_0; have w2 := qt37; omega) (hmn) (chW hch (show a_34 79 = upd (B10 79) y8.toNatClampNeg t32 from by rw [← ea_34]; rfl) hmn (by have w1 := hp1; unfold Int32.toNatClampNeg; omega) (by rw [chR_s, ← hi2]; have w1 := qt32; have w2 := congrArg Int32.toInt (show t30 = k (0 + (kPn k - 1 - mq)) from kvt30.trans (by rw [cl_nat hp1])); omega)) (by have w9 := mx_y ((congrArg Int32.toInt et35).trans (mx_v y9 t32)); rw [hlo, (show t32.toInt = chR k (kPn k) (mq + 1) (kPn k - 1 - mq) from by rw [chR_s, ← hi2]; have w1 := qt32; have w2 := congrArg Int32.toInt (show t30 = k (0 + (kPn k - 1 - mq)) from kvt30.trans (by rw [cl_nat hp1])); omega), ← chR_f (m := mq + 1) (by omega) (by omega) (by omega)] at w9; exact w9) hP hD hS (lv_sub hl [0, 1, 4] rfl)
            · have h39 := (kc_nle c27)
              have b40 : kb 1 y22 9 := kr_lt1 h39 b26 b3 (by decide)
              have b41 : kb 2 t1 10 := kr_lt2 h39 b26 b3 (by decide)
              refine lv_iload hx hb dX7_reckonChains_34 (lv_at hl 0 rfl) ?_
              refine lv_bipush (v := 10) hx hb dX7_reckonChains_36 (by decide) ?_
              refine lv_icmp_ge (tgt := 97) hx hb dX7_reckonChains_38 (by decide) (fun c42 => ?_) (fun c42 => ?_)
              · have h43 := (kc_le c42)
                exact kb_no (kr_le1 h43 kc_10 b40) (by decide)
              · have h44 := (kc_nle c42)
                have hjm : j < mq := by have w1 := hi3; have w2 := kc_nle c27; have w3 := kvit1; have w4 := hNb.2; omega
                have hq : y22.toNatClampNeg = kPn k - 1 - mq + 1 + j := by have w1 := hi3; have w2 := hmn; unfold Int32.toNatClampNeg; omega
                have b45 : kb 1 y22 9 := ⟨(b40).1, by have w1 := hi3; have w2 := hNb.1; omega⟩
                refine lv_aload_n hx hb dX7_reckonChains_41 rfl (lv_at hl 4 rfl) ?_
                refine va_get (D := D) (ci := 7) (v := .ref (r 61)) (C := RX7) (T := TX7) (N := 20) hx hb hg inC7 hown hK hP 59 rfl rfl 2 (by decide) (hg _ wt1_89) (fun _ h9 => h9) rfl dX7_reckonChains_42 ?_
                refine lv_iload hx hb dX7_reckonChains_45 (lv_at hl 0 rfl) ?_
                refine va_iald hx hb hK hP 61 0 rfl rfl (kb_in b45 (by decide) (by decide)) dX7_reckonChains_47 ?_
                refine lv_topi (fun t46 et46 => ?_)
                have kvt46 : t46 = k (33 + y22.toNatClampNeg) := et46.trans ((congrFun (hE.2.1 61 rfl) (y22.toNatClampNeg)).trans (sv_needs hVw (kb_clt b45 (by decide) (by decide))))
                have b47 : kb 0 t46 1023 := kb_eq et46 (et46 ▸ kb_eq kvt46 (kK_s hkk 33 10 _ _ (by decide) (by decide) (kb_clt b45 (by decide) (by decide))))
                refine lv_iload_n hx hb dX7_reckonChains_48 rfl (lv_at hl 2 rfl) ?_
                refine lv_ishr hx hb dX7_reckonChains_49 ?_
                refine lv_topi (fun t48 et48 => ?_)
                refine lv_iconst (v := 1) hx hb dX7_reckonChains_50 (by decide) ?_
                refine lv_iand hx hb dX7_reckonChains_51 ?_
                refine lv_topi (fun t49 et49 => ?_)
                have b50 : kb 0 t49 1 := kb_eq et49 (kb_and 1 (by decide) (by decide))
                refine lv_iconst (v := 1) hx hb dX7_reckonChains_52 (by decide) ?_
                refine lv_icmp_ne (tgt := 91) hx hb dX7_reckonChains_53 (by decide) (fun c51 => ?_) (fun c51 => ?_)
                · have b52 : kb 0 t49 0 := kr_neh c51 b50 kc_1 (by decide)
                  obtain ⟨t53, et53⟩ : ∃ z : Int32, z = y22 + Int32.ofInt 1 := ⟨_, rfl⟩
                  have qt53 : t53.toInt = y22.toInt + 1 := by rw [et53]; exact km_inc b45 (by decide) (by decide)
                  have b54 : kb 2 t53 10 := kb_inc (k := 1) qt53 b45
                  refine lv_iinc (v := t53) (lv' := [(4, .int t53), (3, .int y23), (2, .int y8), (1, .int y9), (0, .ref (r 59))]) hx hb dX7_reckonChains_91 hl (k := 0) rfl et53.symm (by decide) rfl (fun ls hl => ?_)
                  refine lv_goto (tgt := 25) hx hb dX7_reckonChains_94 (by decide) ?_
                  exact ihlp24 (j + 1) _ _ _ t53 y23 (km_up hmlp24 qt53) (kb_w b54 (by decide) (by decide)) (by have w1 := hvlp24_0; have w2 := qt53; omega) ((chM_n hi2.symm (fun q9 => c51 ((show (k (33 + (kPn k - 1 - mq + 1 + j)) >>> (nI (kPn k - 1 - mq) &&& 31)) &&& 1 = t49 from by rw [et49, et48, ← (show t46 = k (33 + (kPn k - 1 - mq + 1 + j)) from kvt46.trans (by rw [hq])), ← (show y8 = nI (kPn k - 1 - mq) from nI_q hp1)]).symm.trans q9.1))).symm) (hjm) hP hD hS (lv_sub hl [0, 1, 2, 3, 4] rfl)
                · have b55 : kb 1 t49 1 := kb_eq c51 kc_1
                  refine lv_aload_n hx hb dX7_reckonChains_56 rfl (lv_at hl 4 rfl) ?_
                  refine va_get (D := D) (ci := 7) (v := .ref (r 64)) (C := RX7) (T := TX7) (N := 20) hx hb hg inC7 hown hK hP 59 rfl rfl 5 (by decide) (hg _ wt1_97) (fun _ h9 => h9) rfl dX7_reckonChains_57 ?_
                  refine lv_iload hx hb dX7_reckonChains_60 (lv_at hl 0 rfl) ?_
                  refine va_iald hx hb hK hP 64 0 rfl rfl (kb_in b45 (by decide) (by decide)) dX7_reckonChains_62 ?_
                  refine lv_topi (fun t56 et56 => ?_)
                  have kvt56 : t56 = k (0 + y22.toNatClampNeg) := et56.trans ((congrFun (hE.2.1 64 rfl) (y22.toNatClampNeg)).trans (sv_left hVw (kb_clt b45 (by decide) (by decide))))
                  have b57 : kb 0 t56 99 := kb_eq et56 (et56 ▸ kb_eq kvt56 (kK_s hkk 0 10 _ _ (by decide) (by decide) (kb_clt b45 (by decide) (by decide))))
                  refine lv_if_eq (tgt := 91) hx hb dX7_reckonChains_63 (by decide) (fun c58 => ?_) (fun c58 => ?_)
                  · have b59 : kb 0 t56 0 := kb_eq c58 kc_0
                    obtain ⟨t60, et60⟩ : ∃ z : Int32, z = y22 + Int32.ofInt 1 := ⟨_, rfl⟩
                    have qt60 : t60.toInt = y22.toInt + 1 := by rw [et60]; exact km_inc b45 (by decide) (by decide)
                    have b61 : kb 2 t60 10 := kb_inc (k := 1) qt60 b45
                    refine lv_iinc (v := t60) (lv' := [(4, .int t60), (3, .int y23), (2, .int y8), (1, .int y9), (0, .ref (r 59))]) hx hb dX7_reckonChains_91 hl (k := 0) rfl et60.symm (by decide) rfl (fun ls hl => ?_)
                    refine lv_goto (tgt := 25) hx hb dX7_reckonChains_94 (by decide) ?_
                    exact ihlp24 (j + 1) _ _ _ t60 y23 (km_up hmlp24 qt60) (kb_w b61 (by decide) (by decide)) (by have w1 := hvlp24_0; have w2 := qt60; omega) ((chM_n hi2.symm (fun q9 => q9.2 ((show t56 = k (0 + (kPn k - 1 - mq + 1 + j)) from kvt56.trans (by rw [hq])).symm.trans c58))).symm) (hjm) hP hD hS (lv_sub hl [0, 1, 2, 3, 4] rfl)
                  · have b62 : kb 1 t56 99 := kr_nel c58 b57 kc_0 (by decide)
                    refine lv_aload_n hx hb dX7_reckonChains_66 rfl (lv_at hl 4 rfl) ?_
                    refine va_get (D := D) (ci := 7) (v := .ref (r 74)) (C := RX7) (T := TX7) (N := 20) hx hb hg inC7 hown hK hP 59 rfl rfl 19 (by decide) (hg _ wt1_154) (fun _ h9 => h9) rfl dX7_reckonChains_67 ?_
                    refine va_get (D := D) (ci := 8) (v := .ref (r 79)) (C := RX8) (T := TX8) (N := 5) hx hb hg inC8 hown hK hP 74 rfl rfl 4 (by decide) (hg _ wt1_65) (fun _ h9 => h9) rfl dX7_reckonChains_70 ?_
                    refine lv_iload hx hb dX7_reckonChains_73 (lv_at hl 0 rfl) ?_
                    refine va_iald hx hb hK hP 79 0 rfl rfl (kb_in b45 (by decide) (by decide)) dX7_reckonChains_75 ?_
                    refine lv_topi (fun t63 et63 => ?_)
                    refine lv_iload_n hx hb dX7_reckonChains_76 rfl (lv_at hl 1 rfl) ?_
                    refine lv_icmp_le (tgt := 91) hx hb dX7_reckonChains_77 (by decide) (fun c64 => ?_) (fun c64 => ?_)
                    · have h65 := (kc_le c64)
                      obtain ⟨t66, et66⟩ : ∃ z : Int32, z = y22 + Int32.ofInt 1 := ⟨_, rfl⟩
                      have qt66 : t66.toInt = y22.toInt + 1 := by rw [et66]; exact km_inc b45 (by decide) (by decide)
                      have b67 : kb 2 t66 10 := kb_inc (k := 1) qt66 b45
                      refine lv_iinc (v := t66) (lv' := [(4, .int t66), (3, .int y23), (2, .int y8), (1, .int y9), (0, .ref (r 59))]) hx hb dX7_reckonChains_91 hl (k := 0) rfl et66.symm (by decide) rfl (fun ls hl => ?_)
                      refine lv_goto (tgt := 25) hx hb dX7_reckonChains_94 (by decide) ?_
                      exact ihlp24 (j + 1) _ _ _ t66 y23 (km_up hmlp24 qt66) (kb_w b67 (by decide) (by decide)) (by have w1 := hvlp24_0; have w2 := qt66; omega) ((chM_y hi2.symm ((show (k (33 + (kPn k - 1 - mq + 1 + j)) >>> (nI (kPn k - 1 - mq) &&& 31)) &&& 1 = t49 from by rw [et49, et48, ← (show t46 = k (33 + (kPn k - 1 - mq + 1 + j)) from kvt46.trans (by rw [hq])), ← (show y8 = nI (kPn k - 1 - mq) from nI_q hp1)]).trans c51) (fun w9 => c58 ((show t56 = k (0 + (kPn k - 1 - mq + 1 + j)) from kvt56.trans (by rw [hq])).trans w9)) (show t63.toInt = chR k (kPn k) mq (kPn k - 1 - mq + 1 + j) from by rw [et63, hq]; exact hch _ (by omega) (by omega)) (gt_c rfl rfl (Or.inr ⟨fun w9 => absurd (kc_lt w9) (Int.not_lt.mpr (kc_le c64)), rfl⟩))).symm) (hjm) hP hD hS (lv_sub hl [0, 1, 2, 3, 4] rfl)
                    · have h68 := (kc_nle c64)
                      have b69 : kb (-2147483648) y23 2147483646 := kr_lt1 h68 (kb_any y23) (kb_any t63) (by decide)
                      have b70 : kb (-2147483647) t63 2147483647 := kr_lt2 h68 (kb_any y23) (kb_any t63) (by decide)
                      refine lv_aload_n hx hb dX7_reckonChains_80 rfl (lv_at hl 4 rfl) ?_
                      refine va_get (D := D) (ci := 7) (v := .ref (r 74)) (C := RX7) (T := TX7) (N := 20) hx hb hg inC7 hown hK hP 59 rfl rfl 19 (by decide) (hg _ wt1_154) (fun _ h9 => h9) rfl dX7_reckonChains_81 ?_
                      refine va_get (D := D) (ci := 8) (v := .ref (r 79)) (C := RX8) (T := TX8) (N := 5) hx hb hg inC8 hown hK hP 74 rfl rfl 4 (by decide) (hg _ wt1_65) (fun _ h9 => h9) rfl dX7_reckonChains_84 ?_
                      refine lv_iload hx hb dX7_reckonChains_87 (lv_at hl 0 rfl) ?_
                      refine va_iald hx hb hK hP 79 0 rfl rfl (kb_in b45 (by decide) (by decide)) dX7_reckonChains_89 ?_
                      refine k_top (z := t63) et63.symm ?_
                      refine lv_istore_n (lv' := [(3, .int t63), (4, .int y22), (2, .int y8), (1, .int y9), (0, .ref (r 59))]) hx hb dX7_reckonChains_90 rfl hl (by decide) rfl (fun ls hl => ?_)
                      obtain ⟨t71, et71⟩ : ∃ z : Int32, z = y22 + Int32.ofInt 1 := ⟨_, rfl⟩
                      have qt71 : t71.toInt = y22.toInt + 1 := by rw [et71]; exact km_inc b45 (by decide) (by decide)
                      have b72 : kb 2 t71 10 := kb_inc (k := 1) qt71 b45
                      refine lv_iinc (v := t71) (lv' := [(4, .int t71), (3, .int t63), (2, .int y8), (1, .int y9), (0, .ref (r 59))]) hx hb dX7_reckonChains_91 hl (k := 1) rfl et71.symm (by decide) rfl (fun ls hl => ?_)
                      refine lv_goto (tgt := 25) hx hb dX7_reckonChains_94 (by decide) ?_
                      exact ihlp24 (j + 1) _ _ _ t71 t63 (km_up hmlp24 qt71) (kb_w b72 (by decide) (by decide)) (by have w1 := hvlp24_0; have w2 := qt71; omega) ((chM_y hi2.symm ((show (k (33 + (kPn k - 1 - mq + 1 + j)) >>> (nI (kPn k - 1 - mq) &&& 31)) &&& 1 = t49 from by rw [et49, et48, ← (show t46 = k (33 + (kPn k - 1 - mq + 1 + j)) from kvt46.trans (by rw [hq])), ← (show y8 = nI (kPn k - 1 - mq) from nI_q hp1)]).trans c51) (fun w9 => c58 ((show t56 = k (0 + (kPn k - 1 - mq + 1 + j)) from kvt56.trans (by rw [hq])).trans w9)) (show t63.toInt = chR k (kPn k) mq (kPn k - 1 - mq + 1 + j) from by rw [et63, hq]; exact hch _ (by omega) (by omega)) (gt_c rfl rfl (Or.inl ⟨Int32.lt_iff_toInt_lt.mpr (kc_nle c64), rfl⟩))).symm) (hjm) hP hD hS (lv_sub hl [0, 1, 2, 3, 4] rfl)
        exact lp24 (10) 0 _ _ _ t20 0 (by have h1 := (b21); unfold kb at h1; omega) b21 (by have w1 := qt20; have w2 := hp1; have w3 := hmn; omega) (by show (0 : Int32).toInt = (0 : Int); decide +kernel) (Nat.zero_le _) hP hD hS (lv_sub hl [0, 1, 2, 3, 4] rfl)
  exact lp11 (11) 0 a _ _ _ t6 0 (by have h1 := (b7); unfold kb at h1; omega) hI hG hE b7 (kb_w kc_0 (by decide) (by decide)) (by have w1 := qt6; have w2 := (congrArg Int32.toInt et4).trans (mn_v _ _); have w3 := kvit1; have w4 := (kPn_b hkk).2; have w5 := (kPn_b hkk).1; have w6 : (10 : Int32).toInt = 10 := (by decide +kernel); omega) (Nat.zero_le _) (fun i h1 h2 => by omega) (by show (0 : Int32).toInt = (0 : Int); decide +kernel) hP hD hS (lv_sub hl [0, 1, 2] rfl)
set_option maxHeartbeats 4000000 in
set_option maxRecDepth 100000 in
theorem z_begin  (l : Launch) {D : va_G} {K : Nat → ClassId} (r : Nat → Nat) (f : Nat → Int32) (a : Nat → Nat → Int32) (g : xG) (tx tt : va_W) (hT : ∀ c ∈ tt, c ∈ tx) (hI : xI f a) (hG : gOK K g.2 tt)   (k : Nat → Int32) (hVw : sV 32 2 f a k) (hkk : kK k)  (hp0 : f 1858 = -1) : kVG l yX3_begin (Cond.code yX3_begin cX3_begin 1 none :: kG) (rmD 3 0 0) D K [.ref (r 58)] (xX K r f a g tx) (fun (u : xS) => xI u.1 u.2.1 ∧ gOK K u.2.2.2 tt ∧ xEk ([1888, 1894, 1900, 1905, 1906], [60, 61, 62, 63, 64, 65, 66, 67, 68, 69, 70, 71, 72], [73]) f a g u.1 u.2.1 u.2.2 ∧ sV 1888 60 u.1 u.2.1 (bgF k) ∧ (∀ i, i < 6 → u.2.2.2 73 i = g.2 15 i)) (fun u => xX K r u.1 u.2.1 u.2.2 tx) 0 0 := by
  refine kVG.of (cc := cX3_begin) (maxL := 1) (ret := none) (by decide) rfl (Nat.le_of_ble_eq_true rfl) ?_
  intro p e s m below meth c A hx hb hr hml hown hts hlocks hnm hK hP hD hS hA hV ls hl
  have hE : xEk ([1888, 1894, 1900, 1905, 1906], [60, 61, 62, 63, 64, 65, 66, 67, 68, 69, 70, 71, 72], [73]) f a g f a g := xEk_rf
  have hg : ∀ w ∈ kG, w.before _ s = true := fun w h => hts w (List.mem_cons_of_mem _ h)
  have hown : s.vm.findClass RX3 = some m.cls := hown
  have hl : lv_has ls 1 [(0, .ref (r 58))] := hl
  refine lv_aload_n hx hb dX3_begin_0 rfl (lv_at hl 0 rfl) ?_
  refine va_get (D := D) (ci := 3) (v := .ref (r 59)) (C := RX3) (T := TX3) (N := 4) hx hb hg inC3 hown hK hP 58 rfl rfl 0 (by decide) (hg _ wt2_95) (fun _ h9 => h9) rfl dX3_begin_1 ?_
  refine lv_aload_n hx hb dX3_begin_4 rfl (lv_at hl 0 rfl) ?_
  refine va_get (D := D) (ci := 3) (v := .ref (r 1)) (C := RX3) (T := TX3) (N := 4) hx hb hg inC3 hown hK hP 58 rfl rfl 1 (by decide) (hg _ wt2_97) (fun _ h9 => h9) rfl dX3_begin_5 ?_
  refine kVG.callW (As := [.ref (r 1)]) (rest := []) ⟨hx, hb, hml, hown, hg⟩ (z_copyFromP l r f a g tx tt hT hI hG   k hVw hkk ) (cwV 1 hg (kgV wt5_0 wt4_80 wt4_81 wt1_2 wt4_82) rfl rfl rfl (by decide +kernel) ⟨by decide, by decide⟩) hV hK hP hD hS hA (59) 7 rfl rfl rfl hl.1 rfl (Nat.le_of_ble_eq_true rfl) dX3_begin_8 ⟨Nat.le_refl _, Nat.le_refl _⟩ (fun u3 H locs hw1 hP hD hS => ?_)
  obtain ⟨f4, a5, g6⟩ := u3
  have hP : va_P D vwCl (xX K r f4 a5 g6 tx) H := hP
  have hD : va_D A (xX K r f4 a5 g6 tx) := hD
  have hI : xI f4 a5 := hw1.1
  have hG : gOK K g6.2 tt := hw1.2.1
  have eE7 : xEk ([1888, 1894, 1900, 1905, 1906], [60, 61, 62, 63, 64, 65, 66, 67, 68, 69, 70, 71, 72], [73]) f a g f4 a5 g6 := hw1.2.2.1
  have hE : xEk ([1888, 1894, 1900, 1905, 1906], [60, 61, 62, 63, 64, 65, 66, 67, 68, 69, 70, 71, 72], [73]) f a g f4 a5 g6 := xEk_tr hE eE7
  have hcp := hw1.2.2.2.1
  have hcl := hw1.2.2.2.2
  refine lv_aload_n hx hb dX3_begin_11 rfl (lv_at hl 0 rfl) ?_
  refine va_get (D := D) (ci := 3) (v := .ref (r 59)) (C := RX3) (T := TX3) (N := 4) hx hb hg inC3 hown hK hP 58 rfl rfl 0 (by decide) (hg _ wt2_95) (fun _ h9 => h9) rfl dX3_begin_12 ?_
  refine va_get (D := D) (ci := 7) (v := .ref (r 68)) (C := RX7) (T := TX7) (N := 20) hx hb hg inC7 hown hK hP 59 rfl rfl 10 (by decide) (hg _ wt1_123) (fun _ h9 => h9) rfl dX3_begin_15 ?_
  refine lv_iconst (v := (-1)) hx hb dX3_begin_18 (by decide) ?_
  refine kV.callA (q0 := 68) (As := [.ref (r 68), .int (-1)]) (rest := []) ⟨hx, hb, hml, hown, hg⟩ (x_fill l (r 68) 6 (a5 68) (-1) (by decide)) (va_cwS 2 hg (kgS wt5_1 wt3_232 wt1_19 wt3_233) rfl rfl rfl (by decide +kernel) ⟨by decide, by decide⟩) hK hP hD hS hA rfl rfl hl.1 rfl (Nat.le_of_ble_eq_true rfl) dX3_begin_19 ⟨by decide, by decide⟩ (fun u8 H locs hw9 hP hD hS => ?_)
  have hP : va_P D vwCl (xX K r f4 (va_up a5 68 u8) g6 tx) H := hP
  have hD : va_D A (xX K r f4 (va_up a5 68 u8) g6 tx) := hD
  refine k_gen (P := fun z => va_P D vwCl (xX K r f4 z g6 tx) H ∧ va_D A (xX K r f4 z g6 tx) ∧ (xI f4 z) ∧ (gOK K g6.2 tt) ∧ (xEk ([1888, 1894, 1900, 1905, 1906], [60, 61, 62, 63, 64, 65, 66, 67, 68, 69, 70, 71, 72], [73]) f a g f4 z g6)) (va_up a5 68 u8) ⟨hP, hD, (xI_a hI (by decide)), hG, (xEk_a hE rfl)⟩ (fun a_10 ea_10 hq => ?_)
  obtain ⟨hP, hD, hI, hG, hE⟩ := hq
  have hsv : sV 1888 60 f4 a_10 (bgF k) := sV_bg hcp rfl rfl rfl rfl rfl (fun j hj hn => by rcases (show j = 0 ∨ j = 1 ∨ j = 2 ∨ j = 3 ∨ j = 4 ∨ j = 5 ∨ j = 6 ∨ j = 7 ∨ j = 9 ∨ j = 10 ∨ j = 11 ∨ j = 12 by omega) with e9 | e9 | e9 | e9 | e9 | e9 | e9 | e9 | e9 | e9 | e9 | e9 <;> (subst e9; rw [← ea_10]; rfl)) (fun i hi => by rw [← ea_10]; exact hw9 i hi)
  refine lv_aload_n hx hb dX3_begin_22 rfl (lv_at hl 0 rfl) ?_
  refine va_get (D := D) (ci := 3) (v := .ref (r 59)) (C := RX3) (T := TX3) (N := 4) hx hb hg inC3 hown hK hP 58 rfl rfl 0 (by decide) (hg _ wt2_95) (fun _ h9 => h9) rfl dX3_begin_23 ?_
  refine lv_aload_n hx hb dX3_begin_26 rfl (lv_at hl 0 rfl) ?_
  refine va_get (D := D) (ci := 3) (v := .int (f4 1858)) (C := RX3) (T := TX3) (N := 4) hx hb hg inC3 hown hK hP 58 rfl rfl 2 (by decide) (hg _ wt2_98) (fun _ h9 => h9) rfl dX3_begin_27 ?_
  refine k_top (z := (-1)) ((eE7.1 1858 rfl).trans hp0) ?_
  refine kIG.callW (As := [.int (-1)]) (rest := []) ⟨hx, hb, hml, hown, hg⟩ (z_hasBuilderP l r f4 a_10 g6 tx tt hT hI hG (-1)  (bgF k) hsv (kK_bg hkk) ) (cwV 1 hg (kgV wt5_2 wt3_68 wt3_69 wt1_2 wt3_70) rfl rfl rfl (by decide +kernel) ⟨by decide, by decide⟩) hV hK hP hD hS hA (59) 7 rfl rfl rfl hl.1 rfl (Nat.le_of_ble_eq_true rfl) dX3_begin_30 ⟨Nat.le_refl _, Nat.le_refl _⟩ (fun v12 u13 H locs hw11 hP hD hS => ?_)
  have hP : va_P D vwCl (xX K r f4 a_10 g6 tx) H := hP
  have hD : va_D A (xX K r f4 a_10 g6 tx) := hD
  refine k_top (z := 0) (hw11.2.trans (if_neg (fun q9 => absurd q9.1 (by decide +kernel)))) ?_
  refine lv_if_eq (tgt := 55) hx hb dX3_begin_33 (by decide) (fun c14 => ?_) (fun c14 => ?_)
  · exact kV_ret hx hb hr hlocks hK hS dX3_begin_55 (f4, a_10, g6) hP hD ⟨hI, hG, hE, hsv, hcl⟩
  · exact kb_nsame c14 kc_0 kc_0
set_option maxHeartbeats 4000000 in
set_option maxRecDepth 100000 in
theorem z_allStand  (l : Launch) {D : va_G} {K : Nat → ClassId} (r : Nat → Nat) (f : Nat → Int32) (a : Nat → Nat → Int32) (g : xG) (tx tt : va_W) (hT : ∀ c ∈ tt, c ∈ tx) (hI : xI f a) (hG : gOK K g.2 tt)   (k : Nat → Int32) (hVw : sV 1888 60 f a k) (hkk : kK k)   : kIG l yX3_allStand (Cond.code yX3_allStand cX3_allStand 1 (some .boolean) :: kG) (rmD 2 0 0) D K [.ref (r 58)] (xX K r f a g tx) (fun v (_ : Unit) => kb 0 v 1 ∧ v = (if alS k = true then 1 else 0)) (fun _ => xX K r f a g tx) 0 0 := by
  refine kIE.of (cc := cX3_allStand) (maxL := 1) (ret := (some .boolean)) (by decide) rfl (Nat.le_of_ble_eq_true rfl) ?_
  intro p e s m below meth c A hx hb hr hml hown hts hlocks hnm hK hP hD hS hA hV ls hl
  have hg : ∀ w ∈ kG, w.before _ s = true := fun w h => hts w (List.mem_cons_of_mem _ h)
  have hown : s.vm.findClass RX3 = some m.cls := hown
  have hl : lv_has ls 1 [(0, .ref (r 58))] := hl
  refine lv_aload_n hx hb dX3_allStand_0 rfl (lv_at hl 0 rfl) ?_
  refine va_get (D := D) (ci := 3) (v := .ref (r 59)) (C := RX3) (T := TX3) (N := 4) hx hb hg inC3 hown hK hP 58 rfl rfl 0 (by decide) (hg _ wt2_95) (fun _ h9 => h9) rfl dX3_allStand_1 ?_
  refine kIG.callW (As := []) (rest := []) ⟨hx, hb, hml, hown, hg⟩ (z_upMaskP l r f a g tx tt hT hI hG   k hVw hkk ) (cwV 0 hg (kgV wt5_74 wt3_44 wt3_45 wt1_2 wt3_46) rfl rfl rfl (by decide +kernel) ⟨by decide, by decide⟩) hV hK hP hD hS hA (59) 7 rfl rfl rfl hl.1 rfl (Nat.le_of_ble_eq_true rfl) dX3_allStand_4 ⟨Nat.le_refl _, Nat.le_refl _⟩ (fun v2 u3 H locs hw1 hP hD hS => ?_)
  have hP : va_P D vwCl (xX K r f a g tx) H := hP
  have hD : va_D A (xX K r f a g tx) := hD
  refine lv_iconst (v := 1) hx hb dX3_allStand_7 (by decide) ?_
  refine lv_aload_n hx hb dX3_allStand_8 rfl (lv_at hl 0 rfl) ?_
  refine va_get (D := D) (ci := 3) (v := .ref (r 59)) (C := RX3) (T := TX3) (N := 4) hx hb hg inC3 hown hK hP 58 rfl rfl 0 (by decide) (hg _ wt2_95) (fun _ h9 => h9) rfl dX3_allStand_9 ?_
  refine va_get (D := D) (ci := 7) (v := .int (f 1888)) (C := RX7) (T := TX7) (N := 20) hx hb hg inC7 hown hK hP 59 rfl rfl 0 (by decide) (hg _ wt1_83) (fun _ h9 => h9) rfl dX3_allStand_12 ?_
  refine lv_topi (fun t4 et4 => ?_)
  have b5 : kb 0 t4 10 := kb_eq et4 (fI_at hI.1 1888 (by decide) (by decide))
  have kvt4 : t4 = k 102 := et4.trans ((sv_parts hVw))
  have kvit4 : t4.toInt = (k 102).toInt := congrArg Int32.toInt kvt4
  have b6 : kb 0 t4 10 := kb_eq kvt4 (kK_r hkk 102 _ _ (by decide) (by decide))
  refine lv_ishl hx hb dX3_allStand_15 ?_
  refine lv_topi (fun t7 et7 => ?_)
  have b8 : kb 1 t7 1024 := kb_eq et7 (kb_shl (l := 0) (h := 10) b6 (by decide))
  refine lv_iconst (v := 1) hx hb dX3_allStand_16 (by decide) ?_
  refine lv_isub hx hb dX3_allStand_17 ?_
  refine lv_topi (fun t9 et9 => ?_)
  have b10 : kb 0 t9 1023 := kb_eq et9 (kb_sub b8 kc_1 (by decide) (by decide))
  have qt9 : t9.toInt = t7.toInt - 1 := by rw [et9]; exact kt_subc b8 kc_1 (by decide) (by decide)
  refine lv_icmp_ne (tgt := 25) hx hb dX3_allStand_18 (by decide) (fun c11 => ?_) (fun c11 => ?_)
  · refine lv_iconst (v := 0) hx hb dX3_allStand_25 (by decide) ?_
    exact kI_ret (v := 0) hx hb hr hlocks (by decide +kernel) hK hS dX3_allStand_26 () hP hD ⟨(kb_w kc_0 (by decide) (by decide)), (by rw [if_neg (fun q9 => c11 (hw1.2.trans ((al_x hkk (al_v (kPn_b hkk).1 (nI_q (kvit4.trans (kPn_b hkk).2)) et7 et9)).mpr q9)))])⟩
  · refine lv_iconst (v := 1) hx hb dX3_allStand_21 (by decide) ?_
    refine lv_goto (tgt := 26) hx hb dX3_allStand_22 (by decide) ?_
    exact kI_ret (v := 1) hx hb hr hlocks (by decide +kernel) hK hS dX3_allStand_26 () hP hD ⟨(kb_w kc_1 (by decide) (by decide)), (by rw [if_pos ((al_x hkk (al_v (kPn_b hkk).1 (nI_q (kvit4.trans (kPn_b hkk).2)) et7 et9)).mp (hw1.2.symm.trans c11))])⟩
set_option maxHeartbeats 4000000 in
set_option maxRecDepth 100000 in
theorem z_sendFree  (l : Launch) {D : va_G} {K : Nat → ClassId} (r : Nat → Nat) (f : Nat → Int32) (a : Nat → Nat → Int32) (g : xG) (tx tt : va_W) (hT : ∀ c ∈ tt, c ∈ tx) (hI : xI f a) (hG : gOK K g.2 tt) (who : Int32)  (k : Nat → Int32) (hVw : sV 1888 60 f a k) (hkk : kK k) (DD : Nat → tE) (hL : lC K tt (g.2 73) k DD)  (hp0 : who = 63) : kVG l yX3_sendFree (Cond.code yX3_sendFree cX3_sendFree 8 none :: kG) (rmD 4 0 0) D K [.ref (r 58), .int who] (xX K r f a g tx) (fun (u : xS) => xI u.1 u.2.1 ∧ gOK K u.2.2.2 tt ∧ xEk ([], [68, 79], []) f a g u.1 u.2.1 u.2.2 ∧ sV 1888 60 u.1 u.2.1 (sdA DD k)) (fun u => xX K r u.1 u.2.1 u.2.2 tx) 0 0 := by
  refine kVG.of (cc := cX3_sendFree) (maxL := 8) (ret := none) (by decide) rfl (Nat.le_of_ble_eq_true rfl) ?_
  intro p e s m below meth c A hx hb hr hml hown hts hlocks hnm hK hP hD hS hA hV ls hl
  have hE : xEk ([], [68, 79], []) f a g f a g := xEk_rf
  have hg : ∀ w ∈ kG, w.before _ s = true := fun w h => hts w (List.mem_cons_of_mem _ h)
  have hown : s.vm.findClass RX3 = some m.cls := hown
  have hl : lv_has ls 8 [(0, .ref (r 58)), (1, .int who)] := hl
  refine lv_aload_n hx hb dX3_sendFree_0 rfl (lv_at hl 0 rfl) ?_
  refine va_get (D := D) (ci := 3) (v := .ref (r 59)) (C := RX3) (T := TX3) (N := 4) hx hb hg inC3 hown hK hP 58 rfl rfl 0 (by decide) (hg _ wt2_95) (fun _ h9 => h9) rfl dX3_sendFree_1 ?_
  refine va_get (D := D) (ci := 7) (v := .ref (r 74)) (C := RX7) (T := TX7) (N := 20) hx hb hg inC7 hown hK hP 59 rfl rfl 19 (by decide) (hg _ wt1_157) (fun _ h9 => h9) rfl dX3_sendFree_4 ?_
  refine va_get (D := D) (ci := 8) (v := .ref (r 79)) (C := RX8) (T := TX8) (N := 5) hx hb hg inC8 hown hK hP 74 rfl rfl 4 (by decide) (hg _ wt1_64) (fun _ h9 => h9) rfl dX3_sendFree_7 ?_
  refine lv_astore_n (lv' := [(2, .ref (r 79)), (0, .ref (r 58)), (1, .int who)]) hx hb dX3_sendFree_10 rfl hl (by decide) rfl (fun ls hl => ?_)
  refine lv_iconst (v := (-1)) hx hb dX3_sendFree_11 (by decide) ?_
  refine lv_istore_n (lv' := [(3, .int (-1)), (2, .ref (r 79)), (0, .ref (r 58)), (1, .int who)]) hx hb dX3_sendFree_12 rfl hl (by decide) rfl (fun ls hl => ?_)
  refine lv_iconst (v := 0) hx hb dX3_sendFree_13 (by decide) ?_
  refine lv_istore (lv' := [(4, .int 0), (3, .int (-1)), (2, .ref (r 79)), (0, .ref (r 58)), (1, .int who)]) hx hb dX3_sendFree_14 hl (by decide) rfl (fun ls hl => ?_)
  have lp6 : ∀ (n7 : Nat) (nn : Nat) (F3 : Nat → Int32) (B4 : Nat → Nat → Int32) (G5 : xG) (H : Heap) (locs : List Loc) (ls : Array Slot) (y1 : Int32) (y2 : Int32), (6 < y1.toInt + (n7 : Int)) → (xI F3 B4) → (gOK K G5.2 tt) → (xEk ([], [68, 79], []) f a g F3 B4 G5) → (kb 0 y1 6) → (kb (-1) y2 1023) → (y1.toInt = (nn : Int)) → (sV 1888 60 F3 B4 (sdF DD k (chA k) nn)) → (y2 = -1 ∨ (y2 = rdM k ∧ ∀ i, i < kPn k → (B4 79 i).toInt = chA k i)) → (nn ≤ kBn k) → va_P D vwCl (xX K r F3 B4 G5 tx) H → va_D A (xX K r F3 B4 G5 tx) → va_S A s.heap H locs → lv_has ls 8 [(4, .int y1), (3, .int y2), (2, .ref (r 79)), (0, .ref (r 58)), (1, .int who)] → W p l e (rmD 4 0 0) s m ([.ref (r 58), .int who] : List Value).toArray below meth c H locs 0 0 (kQv D (tysK K) (fun (u : xS) => xI u.1 u.2.1 ∧ gOK K u.2.2.2 tt ∧ xEk ([], [68, 79], []) f a g u.1 u.2.1 u.2.2 ∧ sV 1888 60 u.1 u.2.1 (sdA DD k)) (fun u => xX K r u.1 u.2.1 u.2.2 tx) A below ([.ref (r 58), .int who] : List Value).toArray s 0 0) (F0 m 16 ls []) := by
    intro n7
    induction n7 with
    | zero =>
      intro nn F3 B4 G5  H locs ls y1 y2 hmlp6 hI hG hE b8 b9 hvlp6_0 hvlp6_1 hvlp6_2 hvlp6_3 hP hD hS hl
      exact (by have h1 := b8.2; have h2 := hmlp6; omega : False).elim
    | succ n7 ihlp6 =>
      intro nn F3 B4 G5  H locs ls y1 y2 hmlp6 hI hG hE b8 b9 hvlp6_0 hvlp6_1 hvlp6_2 hvlp6_3 hP hD hS hl
      have hnn : y1 = nI nn := nI_q hvlp6_0
      have hnb := hnn
      have h6 := (kBn_b hkk).1
      have hk0 := hvlp6_1
      have hks : kK (sdF DD k (chA k) nn) := sd_k hkk nn (by have w9 := hvlp6_3; omega)
      have hne : nE k (sdF DD k (chA k) nn) := sd_E (by have w9 := hvlp6_3; omega)
      refine lv_iload hx hb dX3_sendFree_16 (lv_at hl 0 rfl) ?_
      refine lv_aload_n hx hb dX3_sendFree_18 rfl (lv_at hl 3 rfl) ?_
      refine va_get (D := D) (ci := 3) (v := .ref (r 59)) (C := RX3) (T := TX3) (N := 4) hx hb hg inC3 hown hK hP 58 rfl rfl 0 (by decide) (hg _ wt2_95) (fun _ h9 => h9) rfl dX3_sendFree_19 ?_
      refine va_get (D := D) (ci := 7) (v := .int (F3 1894)) (C := RX7) (T := TX7) (N := 20) hx hb hg inC7 hown hK hP 59 rfl rfl 6 (by decide) (hg _ wt1_106) (fun _ h9 => h9) rfl dX3_sendFree_22 ?_
      refine lv_topi (fun t10 et10 => ?_)
      have kvt10 : t10 = k 103 := et10.trans ((hE.1 1894 rfl).trans (sv_builders hVw))
      have kvit10 : t10.toInt = (k 103).toInt := congrArg Int32.toInt kvt10
      have b11 : kb 0 t10 6 := kb_eq kvt10 (kK_r hkk 103 _ _ (by decide) (by decide))
      refine lv_icmp_ge (tgt := 204) hx hb dX3_sendFree_25 (by decide) (fun c12 => ?_) (fun c12 => ?_)
      · have h13 := (kc_le c12)
        exact kV_ret hx hb hr hlocks hK hS dX3_sendFree_204 (F3, B4, G5) hP hD ⟨hI, hG, hE, (by (try dsimp only); unfold sdA; rw [← (by have w1 := hvlp6_0; have w3 := (show t10.toInt = (kBn k : Int) from kvit10.trans (kBn_b hkk).2); have w4 := hvlp6_3; have w9 := (kBn_b hkk).1; have w2 := kc_le c12; omega : nn = kBn k)]; exact hk0)⟩
      · have h14 := (kc_nle c12)
        have b15 : kb 0 y1 5 := kr_lt1 h14 b8 b11 (by decide)
        have b16 : kb 1 t10 6 := kr_lt2 h14 b8 b11 (by decide)
        refine lv_iload hx hb dX3_sendFree_28 (lv_at hl 0 rfl) ?_
        refine lv_bipush (v := 6) hx hb dX3_sendFree_30 (by decide) ?_
        refine lv_icmp_ge (tgt := 204) hx hb dX3_sendFree_32 (by decide) (fun c17 => ?_) (fun c17 => ?_)
        · have h18 := (kc_le c17)
          exact kb_no (kr_le1 h18 kc_6 b15) (by decide)
        · have h19 := (kc_nle c17)
          have hlt := (by have w1 := hvlp6_0; have w2 := kc_nle c12; have w3 := (show t10.toInt = (kBn k : Int) from kvit10.trans (kBn_b hkk).2); omega : nn < kBn k)
          have hib : 0 ≤ y1.toInt ∧ y1.toInt < ((sdF DD k (chA k) nn) 103).toInt := ⟨(b15).1, by rw [sd_o nn 103 (Or.inr (by omega))]; have w2 := hvlp6_0; have w4 := (kBn_b hkk).2; omega⟩
          refine lv_iload_n hx hb dX3_sendFree_35 rfl (lv_at hl 4 rfl) ?_
          refine lv_iload hx hb dX3_sendFree_36 (lv_at hl 0 rfl) ?_
          refine lv_ishr hx hb dX3_sendFree_38 ?_
          refine lv_topi (fun t20 et20 => ?_)
          refine lv_iconst (v := 1) hx hb dX3_sendFree_39 (by decide) ?_
          refine lv_iand hx hb dX3_sendFree_40 ?_
          refine lv_topi (fun t21 et21 => ?_)
          have b22 : kb 0 t21 1 := kb_eq et21 (kb_and 1 (by decide) (by decide))
          refine k_top (z := 1) (by rw [et21, et20]; exact allb (n := 6) (by decide) (by omega) (hp0.trans (by decide +kernel)) hnb) ?_
          refine lv_if_eq (tgt := 198) hx hb dX3_sendFree_41 (by decide) (fun c23 => ?_) (fun c23 => ?_)
          · exact kb_dj c23 kc_1 kc_0 (by decide)
          · refine lv_aload_n hx hb dX3_sendFree_44 rfl (lv_at hl 3 rfl) ?_
            refine va_get (D := D) (ci := 3) (v := .ref (r 59)) (C := RX3) (T := TX3) (N := 4) hx hb hg inC3 hown hK hP 58 rfl rfl 0 (by decide) (hg _ wt2_95) (fun _ h9 => h9) rfl dX3_sendFree_45 ?_
            refine va_get (D := D) (ci := 7) (v := .ref (r 68)) (C := RX7) (T := TX7) (N := 20) hx hb hg inC7 hown hK hP 59 rfl rfl 10 (by decide) (hg _ wt1_123) (fun _ h9 => h9) rfl dX3_sendFree_48 ?_
            refine lv_iload hx hb dX3_sendFree_51 (lv_at hl 0 rfl) ?_
            refine va_iald hx hb hK hP 68 0 rfl rfl (kb_in b15 (by decide) (by decide)) dX3_sendFree_53 ?_
            refine lv_topi (fun t24 et24 => ?_)
            have kvt24 : t24 = (sdF DD k (chA k) nn) (16 + y1.toNatClampNeg) := et24.trans ((sv_place hk0 (kb_clt b15 (by decide) (by decide)) (by rw [sd_o nn 103 (Or.inr (by omega))]; have w1 := kb_cl b15 (by decide); have w2 := hvlp6_0; have w3 := hlt; have w4 := (kBn_b hkk).2; omega)))
            have b25 : kb (-1) t24 9 := kb_eq et24 (et24 ▸ kb_eq kvt24 (kK_s hks 16 6 _ _ (by decide) (by decide) (kb_clt b15 (by decide) (by decide))))
            have hpl : t24 = (sdF DD k (chA k) nn) (16 + nn) := kvt24.trans (congrArg (sdF DD k (chA k) nn) (by rw [cl_nat hvlp6_0]))
            refine lv_iconst (v := (-1)) hx hb dX3_sendFree_54 (by decide) ?_
            refine lv_icmp_eq (tgt := 61) hx hb dX3_sendFree_55 (by decide) (fun c26 => ?_) (fun c26 => ?_)
            · have b27 : kb (-1) t24 (-1) := kb_eq c26 kc_m1
              refine lv_iload_n hx hb dX3_sendFree_61 rfl (lv_at hl 1 rfl) ?_
              refine lv_iconst (v := (-1)) hx hb dX3_sendFree_62 (by decide) ?_
              refine lv_icmp_ne (tgt := 82) hx hb dX3_sendFree_63 (by decide) (fun c28 => ?_) (fun c28 => ?_)
              · have b29 : kb 0 y2 1023 := kr_nel c28 b9 kc_m1 (by decide)
                obtain ⟨hrd, hch⟩ := (hvlp6_2).resolve_left c28
                refine lv_iconst (v := (-1)) hx hb dX3_sendFree_82 (by decide) ?_
                refine lv_istore (lv' := [(5, .int (-1)), (4, .int y1), (3, .int y2), (2, .ref (r 79)), (0, .ref (r 58)), (1, .int who)]) hx hb dX3_sendFree_83 hl (by decide) rfl (fun ls hl => ?_)
                refine lv_iconst (v := 0) hx hb dX3_sendFree_85 (by decide) ?_
                refine lv_istore (lv' := [(6, .int 0), (5, .int (-1)), (4, .int y1), (3, .int y2), (2, .ref (r 79)), (0, .ref (r 58)), (1, .int who)]) hx hb dX3_sendFree_86 hl (by decide) rfl (fun ls hl => ?_)
                have lp35 : ∀ (n36 : Nat) (qq : Nat) (F32 : Nat → Int32) (B33 : Nat → Nat → Int32) (G34 : xG) (H : Heap) (locs : List Loc) (ls : Array Slot) (y30 : Int32) (y31 : Int32), (10 < y30.toInt + (n36 : Int)) → (xI F32 B33) → (gOK K G34.2 tt) → (xEk ([], [68, 79], []) f a g F32 B33 G34) → (sV 1888 60 F32 B33 (sdF DD k (chA k) nn)) → (kb 0 y30 10) → (kb (-1) y31 9) → (y30.toInt = (qq : Int)) → (y31 = bsF DD (sdF DD k (chA k) nn) (chA k) (nI nn) qq) → (qq ≤ kPn k) → (∀ i, i < kPn k → (B33 79 i).toInt = chA k i) → va_P D vwCl (xX K r F32 B33 G34 tx) H → va_D A (xX K r F32 B33 G34 tx) → va_S A s.heap H locs → lv_has ls 8 [(6, .int y30), (5, .int y31), (4, .int y1), (3, .int y2), (2, .ref (r 79)), (0, .ref (r 58)), (1, .int who)] → W p l e (rmD 4 0 0) s m ([.ref (r 58), .int who] : List Value).toArray below meth c H locs 0 0 (kQv D (tysK K) (fun (u : xS) => xI u.1 u.2.1 ∧ gOK K u.2.2.2 tt ∧ xEk ([], [68, 79], []) f a g u.1 u.2.1 u.2.2 ∧ sV 1888 60 u.1 u.2.1 (sdA DD k)) (fun u => xX K r u.1 u.2.1 u.2.2 tx) A below ([.ref (r 58), .int who] : List Value).toArray s 0 0) (F0 m 88 ls []) := by
                  intro n36
                  induction n36 with
                  | zero =>
                    intro qq F32 B33 G34  H locs ls y30 y31 hmlp35 hI hG hE hk0 b37 b38 hvlp35_0 hvlp35_1 hvlp35_2 hvlp35_3 hP hD hS hl
                    exact (by have h1 := b37.2; have h2 := hmlp35; omega : False).elim
                  | succ n36 ihlp35 =>
                    intro qq F32 B33 G34  H locs ls y30 y31 hmlp35 hI hG hE hk0 b37 b38 hvlp35_0 hvlp35_1 hvlp35_2 hvlp35_3 hP hD hS hl
                    have hnn : y30 = nI qq := nI_q hvlp35_0
                    have hbs := hvlp35_1
                    have hci := hvlp35_3
                    refine lv_iload hx hb dX3_sendFree_88 (lv_at hl 0 rfl) ?_
                    refine lv_aload_n hx hb dX3_sendFree_90 rfl (lv_at hl 5 rfl) ?_
                    refine va_get (D := D) (ci := 3) (v := .ref (r 59)) (C := RX3) (T := TX3) (N := 4) hx hb hg inC3 hown hK hP 58 rfl rfl 0 (by decide) (hg _ wt2_95) (fun _ h9 => h9) rfl dX3_sendFree_91 ?_
                    refine va_get (D := D) (ci := 7) (v := .int (F32 1888)) (C := RX7) (T := TX7) (N := 20) hx hb hg inC7 hown hK hP 59 rfl rfl 0 (by decide) (hg _ wt1_83) (fun _ h9 => h9) rfl dX3_sendFree_94 ?_
                    refine lv_topi (fun t39 et39 => ?_)
                    have b40 : kb 0 t39 10 := kb_eq et39 (fI_at hI.1 1888 (by decide) (by decide))
                    have kvt39 : t39 = k 102 := et39.trans ((hE.1 1888 rfl).trans (sv_parts hVw))
                    have kvit39 : t39.toInt = (k 102).toInt := congrArg Int32.toInt kvt39
                    have b41 : kb 0 t39 10 := kb_eq kvt39 (kK_r hkk 102 _ _ (by decide) (by decide))
                    refine lv_icmp_ge (tgt := 186) hx hb dX3_sendFree_97 (by decide) (fun c42 => ?_) (fun c42 => ?_)
                    · have h43 := (kc_le c42)
                      have hqe : qq = kPn k := by have w1 := hvlp35_0; have w4 := (kPn_b hkk).2; have w5 := hvlp35_2; have w6 := (kPn_b hkk).1; have w2 := kc_le c42; have w3 := kvit39; omega
                      have hbv : y31 = bsF DD (sdF DD k (chA k) nn) (chA k) (nI nn) (kPn k) := by rw [← hqe]; exact hbs
                      refine lv_aload_n hx hb dX3_sendFree_186 rfl (lv_at hl 5 rfl) ?_
                      refine va_get (D := D) (ci := 3) (v := .ref (r 59)) (C := RX3) (T := TX3) (N := 4) hx hb hg inC3 hown hK hP 58 rfl rfl 0 (by decide) (hg _ wt2_95) (fun _ h9 => h9) rfl dX3_sendFree_187 ?_
                      refine va_get (D := D) (ci := 7) (v := .ref (r 68)) (C := RX7) (T := TX7) (N := 20) hx hb hg inC7 hown hK hP 59 rfl rfl 10 (by decide) (hg _ wt1_123) (fun _ h9 => h9) rfl dX3_sendFree_190 ?_
                      refine lv_iload hx hb dX3_sendFree_193 (lv_at hl 2 rfl) ?_
                      refine lv_iload hx hb dX3_sendFree_195 (lv_at hl 1 rfl) ?_
                      have hSv0 := hk0
                      refine va_iast hx hb hK hP hD hS 68 0 rfl rfl (kb_in b15 (by decide) (by decide)) dX3_sendFree_197 (fun H locs hP hD hS => ?_)
                      have hP : va_P D vwCl (xX K r F32 (va_up B33 68 (upd (B33 68) y1.toNatClampNeg y31)) G34 tx) H := hP
                      have hD : va_D A (xX K r F32 (va_up B33 68 (upd (B33 68) y1.toNatClampNeg y31)) G34 tx) := hD
                      refine k_gen (P := fun z => va_P D vwCl (xX K r F32 z G34 tx) H ∧ va_D A (xX K r F32 z G34 tx) ∧ (xI F32 z) ∧ (gOK K G34.2 tt) ∧ (xEk ([], [68, 79], []) f a g F32 z G34)) (va_up B33 68 (upd (B33 68) y1.toNatClampNeg y31)) ⟨hP, hD, (xI_a hI (by decide)), hG, (xEk_a hE rfl)⟩ (fun a_44 ea_44 hq => ?_)
                      obtain ⟨hP, hD, hI, hG, hE⟩ := hq
                      have hnx : sV 1888 60 F32 a_44 (sdF DD k (chA k) (nn + 1)) := by rw [← sd_y (hpl.symm.trans c26) hbv]; exact sV_pl (b := nn) hSv0 rfl rfl rfl rfl rfl (fun j hj hn => by rcases (show j = 0 ∨ j = 1 ∨ j = 2 ∨ j = 3 ∨ j = 4 ∨ j = 5 ∨ j = 6 ∨ j = 7 ∨ j = 9 ∨ j = 10 ∨ j = 11 ∨ j = 12 by omega) with e9 | e9 | e9 | e9 | e9 | e9 | e9 | e9 | e9 | e9 | e9 | e9 <;> (subst e9; rw [← ea_44]; rfl)) (show a_44 68 = upd (B33 68) nn y31 from by rw [show a_44 68 = _ from (show a_44 68 = upd (B33 68) y1.toNatClampNeg y31 from by rw [← ea_44]; rfl), cl_nat hvlp6_0]) (by omega)
                      obtain ⟨t45, et45⟩ : ∃ z : Int32, z = y1 + Int32.ofInt 1 := ⟨_, rfl⟩
                      have qt45 : t45.toInt = y1.toInt + 1 := by rw [et45]; exact km_inc b15 (by decide) (by decide)
                      have b46 : kb 1 t45 6 := kb_inc (k := 1) qt45 b15
                      refine lv_iinc (v := t45) (lv' := [(4, .int t45), (6, .int y30), (5, .int y31), (3, .int y2), (2, .ref (r 79)), (0, .ref (r 58)), (1, .int who)]) hx hb dX3_sendFree_198 hl (k := 2) rfl et45.symm (by decide) rfl (fun ls hl => ?_)
                      refine lv_goto (tgt := 16) hx hb dX3_sendFree_201 (by decide) ?_
                      exact ihlp6 (nn + 1) F32 a_44 G34 _ _ _ t45 y2 (km_up hmlp6 qt45) hI hG hE (kb_w b46 (by decide) (by decide)) (kb_w b29 (by decide) (by decide)) (by have w1 := hvlp6_0; have w2 := qt45; omega) (hnx) ((Or.inr ⟨hrd, by rw [show a_44 79 = B33 79 from (show a_44 79 = B33 79 from by rw [← ea_44]; rfl)]; exact hci⟩)) (hlt) hP hD hS (lv_sub hl [0, 3, 4, 5, 6] rfl)
                    · have h47 := (kc_nle c42)
                      have b48 : kb 0 y30 9 := kr_lt1 h47 b37 b41 (by decide)
                      have b49 : kb 1 t39 10 := kr_lt2 h47 b37 b41 (by decide)
                      refine lv_iload hx hb dX3_sendFree_100 (lv_at hl 0 rfl) ?_
                      refine lv_bipush (v := 10) hx hb dX3_sendFree_102 (by decide) ?_
                      refine lv_icmp_ge (tgt := 186) hx hb dX3_sendFree_104 (by decide) (fun c50 => ?_) (fun c50 => ?_)
                      · have h51 := (kc_le c50)
                        exact kb_no (kr_le1 h51 kc_10 b48) (by decide)
                      · have h52 := (kc_nle c50)
                        have hqP := (by have w1 := hvlp35_0; have w2 := kc_nle c42; have w3 := kvit39; have w4 := (kPn_b hkk).2; omega : qq < kPn k)
                        have hN10 := (kPn_b hkk).1
                        have hip : 0 ≤ y30.toInt ∧ y30.toInt < ((sdF DD k (chA k) nn) 102).toInt := ⟨(b48).1, by rw [sd_o nn 102 (Or.inr (by omega))]; have w2 := hvlp35_0; have w4 := (kPn_b hkk).2; omega⟩
                        refine lv_iload_n hx hb dX3_sendFree_107 rfl (lv_at hl 3 rfl) ?_
                        refine lv_iload hx hb dX3_sendFree_108 (lv_at hl 0 rfl) ?_
                        refine lv_ishr hx hb dX3_sendFree_110 ?_
                        refine lv_topi (fun t53 et53 => ?_)
                        refine lv_iconst (v := 1) hx hb dX3_sendFree_111 (by decide) ?_
                        refine lv_iand hx hb dX3_sendFree_112 ?_
                        refine lv_topi (fun t54 et54 => ?_)
                        have b55 : kb 0 t54 1 := kb_eq et54 (kb_and 1 (by decide) (by decide))
                        have hrb : t54 = (if rdB (sdF DD k (chA k) nn) qq = true then 1 else 0) := by rw [et54, et53, hrd, ne_rd hne hkk (by omega)]; exact rdM_t hkk hqP hnn
                        refine lv_iconst (v := 1) hx hb dX3_sendFree_113 (by decide) ?_
                        refine lv_icmp_ne (tgt := 138) hx hb dX3_sendFree_114 (by decide) (fun c56 => ?_) (fun c56 => ?_)
                        · have b57 : kb 0 t54 0 := kr_neh c56 b55 kc_1 (by decide)
                          refine lv_iconst (v := 0) hx hb dX3_sendFree_138 (by decide) ?_
                          refine lv_istore (lv' := [(7, .int 0), (6, .int y30), (5, .int y31), (4, .int y1), (3, .int y2), (2, .ref (r 79)), (0, .ref (r 58)), (1, .int who)]) hx hb dX3_sendFree_139 hl (by decide) rfl (fun ls hl => ?_)
                          refine lv_iload hx hb dX3_sendFree_141 (lv_at hl 0 rfl) ?_
                          refine lv_if_eq (tgt := 180) hx hb dX3_sendFree_143 (by decide) (fun c58 => ?_) (fun c58 => ?_)
                          · obtain ⟨t59, et59⟩ : ∃ z : Int32, z = y30 + Int32.ofInt 1 := ⟨_, rfl⟩
                            have qt59 : t59.toInt = y30.toInt + 1 := by rw [et59]; exact km_inc b48 (by decide) (by decide)
                            have b60 : kb 1 t59 10 := kb_inc (k := 1) qt59 b48
                            refine lv_iinc (v := t59) (lv' := [(6, .int t59), (7, .int 0), (5, .int y31), (4, .int y1), (3, .int y2), (2, .ref (r 79)), (0, .ref (r 58)), (1, .int who)]) hx hb dX3_sendFree_180 hl (k := 1) rfl et59.symm (by decide) rfl (fun ls hl => ?_)
                            refine lv_goto (tgt := 88) hx hb dX3_sendFree_183 (by decide) ?_
                            exact ihlp35 (qq + 1) F32 B33 G34 _ _ _ t59 y31 (km_up hmlp35 qt59) hI hG hE hk0 (kb_w b60 (by decide) (by decide)) b38 (by have w1 := hvlp35_0; have w2 := qt59; omega) ((hvlp35_1.trans (bs_r (fun q9 => c56 (hrb.trans (if_pos q9)))))) (hqP) ((by exact hci)) hP hD hS (lv_sub hl [0, 2, 3, 4, 5, 6, 7] rfl)
                          · exact kb_nsame c58 kc_0 kc_0
                        · have b61 : kb 1 t54 1 := kb_eq c56 kc_1
                          refine lv_iload hx hb dX3_sendFree_117 (lv_at hl 1 rfl) ?_
                          refine lv_iconst (v := (-1)) hx hb dX3_sendFree_119 (by decide) ?_
                          refine lv_icmp_eq (tgt := 134) hx hb dX3_sendFree_120 (by decide) (fun c62 => ?_) (fun c62 => ?_)
                          · have b63 : kb (-1) y31 (-1) := kb_eq c62 kc_m1
                            refine lv_iconst (v := 1) hx hb dX3_sendFree_134 (by decide) ?_
                            refine lv_goto (tgt := 139) hx hb dX3_sendFree_135 (by decide) ?_
                            refine lv_istore (lv' := [(7, .int 1), (6, .int y30), (5, .int y31), (4, .int y1), (3, .int y2), (2, .ref (r 79)), (0, .ref (r 58)), (1, .int who)]) hx hb dX3_sendFree_139 hl (by decide) rfl (fun ls hl => ?_)
                            refine lv_iload hx hb dX3_sendFree_141 (lv_at hl 0 rfl) ?_
                            refine lv_if_eq (tgt := 180) hx hb dX3_sendFree_143 (by decide) (fun c64 => ?_) (fun c64 => ?_)
                            · exact kb_dj c64 kc_1 kc_0 (by decide)
                            · refine lv_aload_n hx hb dX3_sendFree_146 rfl (lv_at hl 6 rfl) ?_
                              refine va_get (D := D) (ci := 3) (v := .ref (r 59)) (C := RX3) (T := TX3) (N := 4) hx hb hg inC3 hown hK hP 58 rfl rfl 0 (by decide) (hg _ wt2_95) (fun _ h9 => h9) rfl dX3_sendFree_147 ?_
                              refine lv_iconst (v := 3) hx hb dX3_sendFree_150 (by decide) ?_
                              refine lv_iload hx hb dX3_sendFree_151 (lv_at hl 3 rfl) ?_
                              refine lv_iload hx hb dX3_sendFree_153 (lv_at hl 1 rfl) ?_
                              refine kIG.callW (As := [.int 3, .int y1, .int y30]) (rest := []) ⟨hx, hb, hml, hown, hg⟩ (z_askedP l r F32 B33 G34 tx tt hT hI hG 3 y1 y30 (kb_w kc_3 (by decide) (by decide)) b15 b48 (sdF DD k (chA k) nn) hk0 hks DD (lC_6 hkk (lC_cg hL (hE.2.2 73 rfl)) (fun _ _ => rfl) (sd_o nn 105 (Or.inr (by omega)))) hib hip) (cwV 3 hg (kgV wt5_17 wt3_78 wt3_79 wt1_2 wt3_80) rfl rfl rfl (by decide +kernel) ⟨by decide, by decide⟩) hV hK hP hD hS hA (59) 7 rfl rfl rfl hl.1 rfl (Nat.le_of_ble_eq_true rfl) dX3_sendFree_155 ⟨Nat.le_refl _, Nat.le_refl _⟩ (fun v66 u67 H locs hw65 hP hD hS => ?_)
                              obtain ⟨f68, a69, g70⟩ := u67
                              have hP : va_P D vwCl (xX K r f68 a69 g70 tx) H := hP
                              have hD : va_D A (xX K r f68 a69 g70 tx) := hD
                              have hI : xI f68 a69 := hw65.2.1
                              have hG : gOK K g70.2 tt := hw65.2.2.1
                              have eE71 : xEk ([], [], []) F32 B33 G34 f68 a69 g70 := hw65.2.2.2.1
                              have hE : xEk ([], [68, 79], []) f a g f68 a69 g70 := xEk_tr hE (xEk_w (by decide +kernel) eE71)
                              have hk0 : sV 1888 60 f68 a69 (sdF DD k (chA k) nn) := (sV_E hk0 eE71 (by decide +kernel) (by decide +kernel))
                              refine lv_if_ne (tgt := 180) hx hb dX3_sendFree_158 (by decide) (fun c72 => ?_) (fun c72 => ?_)
                              · obtain ⟨t73, et73⟩ : ∃ z : Int32, z = y30 + Int32.ofInt 1 := ⟨_, rfl⟩
                                have qt73 : t73.toInt = y30.toInt + 1 := by rw [et73]; exact km_inc b48 (by decide) (by decide)
                                have b74 : kb 1 t73 10 := kb_inc (k := 1) qt73 b48
                                refine lv_iinc (v := t73) (lv' := [(6, .int t73), (7, .int 1), (5, .int y31), (4, .int y1), (3, .int y2), (2, .ref (r 79)), (0, .ref (r 58)), (1, .int who)]) hx hb dX3_sendFree_180 hl (k := 1) rfl et73.symm (by decide) rfl (fun ls hl => ?_)
                                refine lv_goto (tgt := 88) hx hb dX3_sendFree_183 (by decide) ?_
                                exact ihlp35 (qq + 1) f68 a69 g70 _ _ _ t73 y31 (km_up hmlp35 qt73) hI hG hE hk0 (kb_w b74 (by decide) (by decide)) (kb_w b63 (by decide) (by decide)) (by have w1 := hvlp35_0; have w2 := qt73; omega) ((hvlp35_1.trans (bs_b (by have z0 : (0 : Int32).toInt = 0 := (by decide +kernel); have w2 := ask_31 (DD := DD) (k := (sdF DD k (chA k) nn)) (b := nI nn) (p := nI qq) (kb_nI (N := 5) (by omega) (by decide)); have w1 := (show v66.toInt = askF DD (sdF DD k (chA k) nn) 3 (nI nn) (nI qq) from by have w1 := hw65.2.2.2.2; rw [show (3 : Int32).toInt.toNat = 3 from by decide +kernel, hnb, hnn] at w1; exact w1); have w3 : ¬ v66.toInt = 0 := (fun z9 => c72 (Int32.toInt_inj.mp (z9.trans z0.symm))); omega)))) (hqP) ((by rw [show a69 79 = B33 79 from (eE71.2.1 79 rfl)]; exact hci)) hP hD hS (lv_sub hl [0, 2, 3, 4, 5, 6, 7] rfl)
                              · have b75 : kb 0 v66 0 := kb_eq c72 kc_0
                                refine lv_aload_n hx hb dX3_sendFree_161 rfl (lv_at hl 6 rfl) ?_
                                refine va_get (D := D) (ci := 3) (v := .ref (r 59)) (C := RX3) (T := TX3) (N := 4) hx hb hg inC3 hown hK hP 58 rfl rfl 0 (by decide) (hg _ wt2_95) (fun _ h9 => h9) rfl dX3_sendFree_162 ?_
                                refine lv_iconst (v := 0) hx hb dX3_sendFree_165 (by decide) ?_
                                refine lv_iload hx hb dX3_sendFree_166 (lv_at hl 3 rfl) ?_
                                refine lv_iload hx hb dX3_sendFree_168 (lv_at hl 1 rfl) ?_
                                refine kIG.callW (As := [.int 0, .int y1, .int y30]) (rest := []) ⟨hx, hb, hml, hown, hg⟩ (z_askedP l r f68 a69 g70 tx tt hT hI hG 0 y1 y30 (kb_w kc_0 (by decide) (by decide)) b15 b48 (sdF DD k (chA k) nn) hk0 hks DD (lC_6 hkk (lC_cg hL (hE.2.2 73 rfl)) (fun _ _ => rfl) (sd_o nn 105 (Or.inr (by omega)))) hib hip) (cwV 3 hg (kgV wt5_17 wt3_78 wt3_79 wt1_2 wt3_80) rfl rfl rfl (by decide +kernel) ⟨by decide, by decide⟩) hV hK hP hD hS hA (59) 7 rfl rfl rfl hl.1 rfl (Nat.le_of_ble_eq_true rfl) dX3_sendFree_170 ⟨Nat.le_refl _, Nat.le_refl _⟩ (fun v77 u78 H locs hw76 hP hD hS => ?_)
                                obtain ⟨f79, a80, g81⟩ := u78
                                have hP : va_P D vwCl (xX K r f79 a80 g81 tx) H := hP
                                have hD : va_D A (xX K r f79 a80 g81 tx) := hD
                                have hI : xI f79 a80 := hw76.2.1
                                have hG : gOK K g81.2 tt := hw76.2.2.1
                                have eE82 : xEk ([], [], []) f68 a69 g70 f79 a80 g81 := hw76.2.2.2.1
                                have hE : xEk ([], [68, 79], []) f a g f79 a80 g81 := xEk_tr hE (xEk_w (by decide +kernel) eE82)
                                have hk0 : sV 1888 60 f79 a80 (sdF DD k (chA k) nn) := (sV_E hk0 eE82 (by decide +kernel) (by decide +kernel))
                                refine lv_if_le (tgt := 180) hx hb dX3_sendFree_173 (by decide) (fun c83 => ?_) (fun c83 => ?_)
                                · have h84 := (kc_le c83)
                                  have b85 : kb (-2147483648) v77 0 := kr_le1 h84 (kb_any v77) kc_0
                                  obtain ⟨t86, et86⟩ : ∃ z : Int32, z = y30 + Int32.ofInt 1 := ⟨_, rfl⟩
                                  have qt86 : t86.toInt = y30.toInt + 1 := by rw [et86]; exact km_inc b48 (by decide) (by decide)
                                  have b87 : kb 1 t86 10 := kb_inc (k := 1) qt86 b48
                                  refine lv_iinc (v := t86) (lv' := [(6, .int t86), (7, .int 1), (5, .int y31), (4, .int y1), (3, .int y2), (2, .ref (r 79)), (0, .ref (r 58)), (1, .int who)]) hx hb dX3_sendFree_180 hl (k := 1) rfl et86.symm (by decide) rfl (fun ls hl => ?_)
                                  refine lv_goto (tgt := 88) hx hb dX3_sendFree_183 (by decide) ?_
                                  exact ihlp35 (qq + 1) f79 a80 g81 _ _ _ t86 y31 (km_up hmlp35 qt86) hI hG hE hk0 (kb_w b87 (by decide) (by decide)) (kb_w b63 (by decide) (by decide)) (by have w1 := hvlp35_0; have w2 := qt86; omega) ((hvlp35_1.trans (bs_w (by have z0 : (0 : Int32).toInt = 0 := (by decide +kernel); have w1 := (show v77.toInt = askF DD (sdF DD k (chA k) nn) 0 (nI nn) (nI qq) from by have w1 := hw76.2.2.2.2; rw [show (0 : Int32).toInt.toNat = 0 from by decide +kernel, hnb, hnn] at w1; exact w1); have w2 := kc_le c83; omega)))) (hqP) ((by rw [show a80 79 = B33 79 from ((eE82.2.1 79 rfl).trans (eE71.2.1 79 rfl))]; exact hci)) hP hD hS (lv_sub hl [0, 2, 3, 4, 5, 6, 7] rfl)
                                · have h88 := (kc_nle c83)
                                  have b89 : kb 1 v77 2147483647 := kr_lt2 h88 kc_0 (kb_any v77) (by decide)
                                  refine lv_iload hx hb dX3_sendFree_176 (lv_at hl 1 rfl) ?_
                                  refine lv_istore (lv' := [(5, .int y30), (7, .int 1), (6, .int y30), (4, .int y1), (3, .int y2), (2, .ref (r 79)), (0, .ref (r 58)), (1, .int who)]) hx hb dX3_sendFree_178 hl (by decide) rfl (fun ls hl => ?_)
                                  obtain ⟨t90, et90⟩ : ∃ z : Int32, z = y30 + Int32.ofInt 1 := ⟨_, rfl⟩
                                  have qt90 : t90.toInt = y30.toInt + 1 := by rw [et90]; exact km_inc b48 (by decide) (by decide)
                                  have b91 : kb 1 t90 10 := kb_inc (k := 1) qt90 b48
                                  refine lv_iinc (v := t90) (lv' := [(6, .int t90), (5, .int y30), (7, .int 1), (4, .int y1), (3, .int y2), (2, .ref (r 79)), (0, .ref (r 58)), (1, .int who)]) hx hb dX3_sendFree_180 hl (k := 2) rfl et90.symm (by decide) rfl (fun ls hl => ?_)
                                  refine lv_goto (tgt := 88) hx hb dX3_sendFree_183 (by decide) ?_
                                  exact ihlp35 (qq + 1) f79 a80 g81 _ _ _ t90 y30 (km_up hmlp35 qt90) hI hG hE hk0 (kb_w b91 (by decide) (by decide)) (kb_w b48 (by decide) (by decide)) (by have w1 := hvlp35_0; have w2 := qt90; omega) ((hnn.trans (bs_y (bit1_y hrb (by rw [c56]; decide +kernel)) (Or.inl (hbs.symm.trans c62)) (by have z0 : (0 : Int32).toInt = 0 := (by decide +kernel); have w1 := (show v66.toInt = askF DD (sdF DD k (chA k) nn) 3 (nI nn) (nI qq) from by have w1 := hw65.2.2.2.2; rw [show (3 : Int32).toInt.toNat = 3 from by decide +kernel, hnb, hnn] at w1; exact w1); have w2 := congrArg Int32.toInt c72; omega) (by have z0 : (0 : Int32).toInt = 0 := (by decide +kernel); have w1 := (show v77.toInt = askF DD (sdF DD k (chA k) nn) 0 (nI nn) (nI qq) from by have w1 := hw76.2.2.2.2; rw [show (0 : Int32).toInt.toNat = 0 from by decide +kernel, hnb, hnn] at w1; exact w1); have w2 := kc_nle c83; omega)))) (hqP) ((by rw [show a80 79 = B33 79 from ((eE82.2.1 79 rfl).trans (eE71.2.1 79 rfl))]; exact hci)) hP hD hS (lv_sub hl [0, 1, 3, 4, 5, 6, 7] rfl)
                          · have b92 : kb 0 y31 9 := kr_nel c62 b38 kc_m1 (by decide)
                            refine lv_aload_n hx hb dX3_sendFree_123 rfl (lv_at hl 4 rfl) ?_
                            refine lv_iload hx hb dX3_sendFree_124 (lv_at hl 0 rfl) ?_
                            refine va_iald hx hb hK hP 79 0 rfl rfl (kb_in b48 (by decide) (by decide)) dX3_sendFree_126 ?_
                            refine lv_topi (fun t93 et93 => ?_)
                            refine lv_aload_n hx hb dX3_sendFree_127 rfl (lv_at hl 4 rfl) ?_
                            refine lv_iload hx hb dX3_sendFree_128 (lv_at hl 1 rfl) ?_
                            refine va_iald hx hb hK hP 79 0 rfl rfl (kb_in b92 (by decide) (by decide)) dX3_sendFree_130 ?_
                            refine lv_topi (fun t94 et94 => ?_)
                            refine lv_icmp_le (tgt := 138) hx hb dX3_sendFree_131 (by decide) (fun c95 => ?_) (fun c95 => ?_)
                            · have h96 := (kc_le c95)
                              refine lv_iconst (v := 0) hx hb dX3_sendFree_138 (by decide) ?_
                              refine lv_istore (lv' := [(7, .int 0), (6, .int y30), (5, .int y31), (4, .int y1), (3, .int y2), (2, .ref (r 79)), (0, .ref (r 58)), (1, .int who)]) hx hb dX3_sendFree_139 hl (by decide) rfl (fun ls hl => ?_)
                              refine lv_iload hx hb dX3_sendFree_141 (lv_at hl 0 rfl) ?_
                              refine lv_if_eq (tgt := 180) hx hb dX3_sendFree_143 (by decide) (fun c97 => ?_) (fun c97 => ?_)
                              · obtain ⟨t98, et98⟩ : ∃ z : Int32, z = y30 + Int32.ofInt 1 := ⟨_, rfl⟩
                                have qt98 : t98.toInt = y30.toInt + 1 := by rw [et98]; exact km_inc b48 (by decide) (by decide)
                                have b99 : kb 1 t98 10 := kb_inc (k := 1) qt98 b48
                                refine lv_iinc (v := t98) (lv' := [(6, .int t98), (7, .int 0), (5, .int y31), (4, .int y1), (3, .int y2), (2, .ref (r 79)), (0, .ref (r 58)), (1, .int who)]) hx hb dX3_sendFree_180 hl (k := 1) rfl et98.symm (by decide) rfl (fun ls hl => ?_)
                                refine lv_goto (tgt := 88) hx hb dX3_sendFree_183 (by decide) ?_
                                exact ihlp35 (qq + 1) F32 B33 G34 _ _ _ t98 y31 (km_up hmlp35 qt98) hI hG hE hk0 (kb_w b99 (by decide) (by decide)) (kb_w b92 (by decide) (by decide)) (by have w1 := hvlp35_0; have w2 := qt98; omega) ((hvlp35_1.trans (bs_l (fun q => c62 (hbs.trans q)) (by have w1 := (show t93.toInt = chA k qq from by rw [show t93 = B33 79 qq from et93.trans (congrArg (B33 79) (cl_nat hvlp35_0))]; exact hci qq hqP); have w2 := (show t94.toInt = chA k (bsF DD (sdF DD k (chA k) nn) (chA k) (nI nn) qq).toNatClampNeg from by rw [show t94 = _ from et94, ← hbs]; exact hci _ (by have w1 := (bs_k (DD := DD) (R := chA k) (b := nI nn) (n := qq) hks (by rw [ne_pn hne]; omega)).2; rw [← hbs, sd_o nn 102 (Or.inr (by omega))] at w1; have w2 := (kPn_b hkk).2; have w3 := (b92).1; unfold Int32.toNatClampNeg; omega)); have w3 := kc_le c95; omega)))) (hqP) ((by exact hci)) hP hD hS (lv_sub hl [0, 2, 3, 4, 5, 6, 7] rfl)
                              · exact kb_nsame c97 kc_0 kc_0
                            · have h100 := (kc_nle c95)
                              have b101 : kb (-2147483648) t94 2147483646 := kr_lt1 h100 (kb_any t94) (kb_any t93) (by decide)
                              have b102 : kb (-2147483647) t93 2147483647 := kr_lt2 h100 (kb_any t94) (kb_any t93) (by decide)
                              refine lv_iconst (v := 1) hx hb dX3_sendFree_134 (by decide) ?_
                              refine lv_goto (tgt := 139) hx hb dX3_sendFree_135 (by decide) ?_
                              refine lv_istore (lv' := [(7, .int 1), (6, .int y30), (5, .int y31), (4, .int y1), (3, .int y2), (2, .ref (r 79)), (0, .ref (r 58)), (1, .int who)]) hx hb dX3_sendFree_139 hl (by decide) rfl (fun ls hl => ?_)
                              refine lv_iload hx hb dX3_sendFree_141 (lv_at hl 0 rfl) ?_
                              refine lv_if_eq (tgt := 180) hx hb dX3_sendFree_143 (by decide) (fun c103 => ?_) (fun c103 => ?_)
                              · exact kb_dj c103 kc_1 kc_0 (by decide)
                              · refine lv_aload_n hx hb dX3_sendFree_146 rfl (lv_at hl 6 rfl) ?_
                                refine va_get (D := D) (ci := 3) (v := .ref (r 59)) (C := RX3) (T := TX3) (N := 4) hx hb hg inC3 hown hK hP 58 rfl rfl 0 (by decide) (hg _ wt2_95) (fun _ h9 => h9) rfl dX3_sendFree_147 ?_
                                refine lv_iconst (v := 3) hx hb dX3_sendFree_150 (by decide) ?_
                                refine lv_iload hx hb dX3_sendFree_151 (lv_at hl 3 rfl) ?_
                                refine lv_iload hx hb dX3_sendFree_153 (lv_at hl 1 rfl) ?_
                                refine kIG.callW (As := [.int 3, .int y1, .int y30]) (rest := []) ⟨hx, hb, hml, hown, hg⟩ (z_askedP l r F32 B33 G34 tx tt hT hI hG 3 y1 y30 (kb_w kc_3 (by decide) (by decide)) b15 b48 (sdF DD k (chA k) nn) hk0 hks DD (lC_6 hkk (lC_cg hL (hE.2.2 73 rfl)) (fun _ _ => rfl) (sd_o nn 105 (Or.inr (by omega)))) hib hip) (cwV 3 hg (kgV wt5_17 wt3_78 wt3_79 wt1_2 wt3_80) rfl rfl rfl (by decide +kernel) ⟨by decide, by decide⟩) hV hK hP hD hS hA (59) 7 rfl rfl rfl hl.1 rfl (Nat.le_of_ble_eq_true rfl) dX3_sendFree_155 ⟨Nat.le_refl _, Nat.le_refl _⟩ (fun v105 u106 H locs hw104 hP hD hS => ?_)
                                obtain ⟨f107, a108, g109⟩ := u106
                                have hP : va_P D vwCl (xX K r f107 a108 g109 tx) H := hP
                                have hD : va_D A (xX K r f107 a108 g109 tx) := hD
                                have hI : xI f107 a108 := hw104.2.1
                                have hG : gOK K g109.2 tt := hw104.2.2.1
                                have eE110 : xEk ([], [], []) F32 B33 G34 f107 a108 g109 := hw104.2.2.2.1
                                have hE : xEk ([], [68, 79], []) f a g f107 a108 g109 := xEk_tr hE (xEk_w (by decide +kernel) eE110)
                                have hk0 : sV 1888 60 f107 a108 (sdF DD k (chA k) nn) := (sV_E hk0 eE110 (by decide +kernel) (by decide +kernel))
                                refine lv_if_ne (tgt := 180) hx hb dX3_sendFree_158 (by decide) (fun c111 => ?_) (fun c111 => ?_)
                                · obtain ⟨t112, et112⟩ : ∃ z : Int32, z = y30 + Int32.ofInt 1 := ⟨_, rfl⟩
                                  have qt112 : t112.toInt = y30.toInt + 1 := by rw [et112]; exact km_inc b48 (by decide) (by decide)
                                  have b113 : kb 1 t112 10 := kb_inc (k := 1) qt112 b48
                                  refine lv_iinc (v := t112) (lv' := [(6, .int t112), (7, .int 1), (5, .int y31), (4, .int y1), (3, .int y2), (2, .ref (r 79)), (0, .ref (r 58)), (1, .int who)]) hx hb dX3_sendFree_180 hl (k := 1) rfl et112.symm (by decide) rfl (fun ls hl => ?_)
                                  refine lv_goto (tgt := 88) hx hb dX3_sendFree_183 (by decide) ?_
                                  exact ihlp35 (qq + 1) f107 a108 g109 _ _ _ t112 y31 (km_up hmlp35 qt112) hI hG hE hk0 (kb_w b113 (by decide) (by decide)) (kb_w b92 (by decide) (by decide)) (by have w1 := hvlp35_0; have w2 := qt112; omega) ((hvlp35_1.trans (bs_b (by have z0 : (0 : Int32).toInt = 0 := (by decide +kernel); have w2 := ask_31 (DD := DD) (k := (sdF DD k (chA k) nn)) (b := nI nn) (p := nI qq) (kb_nI (N := 5) (by omega) (by decide)); have w1 := (show v105.toInt = askF DD (sdF DD k (chA k) nn) 3 (nI nn) (nI qq) from by have w1 := hw104.2.2.2.2; rw [show (3 : Int32).toInt.toNat = 3 from by decide +kernel, hnb, hnn] at w1; exact w1); have w3 : ¬ v105.toInt = 0 := (fun z9 => c111 (Int32.toInt_inj.mp (z9.trans z0.symm))); omega)))) (hqP) ((by rw [show a108 79 = B33 79 from (eE110.2.1 79 rfl)]; exact hci)) hP hD hS (lv_sub hl [0, 2, 3, 4, 5, 6, 7] rfl)
                                · have b114 : kb 0 v105 0 := kb_eq c111 kc_0
                                  refine lv_aload_n hx hb dX3_sendFree_161 rfl (lv_at hl 6 rfl) ?_
                                  refine va_get (D := D) (ci := 3) (v := .ref (r 59)) (C := RX3) (T := TX3) (N := 4) hx hb hg inC3 hown hK hP 58 rfl rfl 0 (by decide) (hg _ wt2_95) (fun _ h9 => h9) rfl dX3_sendFree_162 ?_
                                  refine lv_iconst (v := 0) hx hb dX3_sendFree_165 (by decide) ?_
                                  refine lv_iload hx hb dX3_sendFree_166 (lv_at hl 3 rfl) ?_
                                  refine lv_iload hx hb dX3_sendFree_168 (lv_at hl 1 rfl) ?_
                                  refine kIG.callW (As := [.int 0, .int y1, .int y30]) (rest := []) ⟨hx, hb, hml, hown, hg⟩ (z_askedP l r f107 a108 g109 tx tt hT hI hG 0 y1 y30 (kb_w kc_0 (by decide) (by decide)) b15 b48 (sdF DD k (chA k) nn) hk0 hks DD (lC_6 hkk (lC_cg hL (hE.2.2 73 rfl)) (fun _ _ => rfl) (sd_o nn 105 (Or.inr (by omega)))) hib hip) (cwV 3 hg (kgV wt5_17 wt3_78 wt3_79 wt1_2 wt3_80) rfl rfl rfl (by decide +kernel) ⟨by decide, by decide⟩) hV hK hP hD hS hA (59) 7 rfl rfl rfl hl.1 rfl (Nat.le_of_ble_eq_true rfl) dX3_sendFree_170 ⟨Nat.le_refl _, Nat.le_refl _⟩ (fun v116 u117 H locs hw115 hP hD hS => ?_)
                                  obtain ⟨f118, a119, g120⟩ := u117
                                  have hP : va_P D vwCl (xX K r f118 a119 g120 tx) H := hP
                                  have hD : va_D A (xX K r f118 a119 g120 tx) := hD
                                  have hI : xI f118 a119 := hw115.2.1
                                  have hG : gOK K g120.2 tt := hw115.2.2.1
                                  have eE121 : xEk ([], [], []) f107 a108 g109 f118 a119 g120 := hw115.2.2.2.1
                                  have hE : xEk ([], [68, 79], []) f a g f118 a119 g120 := xEk_tr hE (xEk_w (by decide +kernel) eE121)
                                  have hk0 : sV 1888 60 f118 a119 (sdF DD k (chA k) nn) := (sV_E hk0 eE121 (by decide +kernel) (by decide +kernel))
                                  refine lv_if_le (tgt := 180) hx hb dX3_sendFree_173 (by decide) (fun c122 => ?_) (fun c122 => ?_)
                                  · have h123 := (kc_le c122)
                                    have b124 : kb (-2147483648) v116 0 := kr_le1 h123 (kb_any v116) kc_0
                                    obtain ⟨t125, et125⟩ : ∃ z : Int32, z = y30 + Int32.ofInt 1 := ⟨_, rfl⟩
                                    have qt125 : t125.toInt = y30.toInt + 1 := by rw [et125]; exact km_inc b48 (by decide) (by decide)
                                    have b126 : kb 1 t125 10 := kb_inc (k := 1) qt125 b48
                                    refine lv_iinc (v := t125) (lv' := [(6, .int t125), (7, .int 1), (5, .int y31), (4, .int y1), (3, .int y2), (2, .ref (r 79)), (0, .ref (r 58)), (1, .int who)]) hx hb dX3_sendFree_180 hl (k := 1) rfl et125.symm (by decide) rfl (fun ls hl => ?_)
                                    refine lv_goto (tgt := 88) hx hb dX3_sendFree_183 (by decide) ?_
                                    exact ihlp35 (qq + 1) f118 a119 g120 _ _ _ t125 y31 (km_up hmlp35 qt125) hI hG hE hk0 (kb_w b126 (by decide) (by decide)) (kb_w b92 (by decide) (by decide)) (by have w1 := hvlp35_0; have w2 := qt125; omega) ((hvlp35_1.trans (bs_w (by have z0 : (0 : Int32).toInt = 0 := (by decide +kernel); have w1 := (show v116.toInt = askF DD (sdF DD k (chA k) nn) 0 (nI nn) (nI qq) from by have w1 := hw115.2.2.2.2; rw [show (0 : Int32).toInt.toNat = 0 from by decide +kernel, hnb, hnn] at w1; exact w1); have w2 := kc_le c122; omega)))) (hqP) ((by rw [show a119 79 = B33 79 from ((eE121.2.1 79 rfl).trans (eE110.2.1 79 rfl))]; exact hci)) hP hD hS (lv_sub hl [0, 2, 3, 4, 5, 6, 7] rfl)
                                  · have h127 := (kc_nle c122)
                                    have b128 : kb 1 v116 2147483647 := kr_lt2 h127 kc_0 (kb_any v116) (by decide)
                                    refine lv_iload hx hb dX3_sendFree_176 (lv_at hl 1 rfl) ?_
                                    refine lv_istore (lv' := [(5, .int y30), (7, .int 1), (6, .int y30), (4, .int y1), (3, .int y2), (2, .ref (r 79)), (0, .ref (r 58)), (1, .int who)]) hx hb dX3_sendFree_178 hl (by decide) rfl (fun ls hl => ?_)
                                    obtain ⟨t129, et129⟩ : ∃ z : Int32, z = y30 + Int32.ofInt 1 := ⟨_, rfl⟩
                                    have qt129 : t129.toInt = y30.toInt + 1 := by rw [et129]; exact km_inc b48 (by decide) (by decide)
                                    have b130 : kb 1 t129 10 := kb_inc (k := 1) qt129 b48
                                    refine lv_iinc (v := t129) (lv' := [(6, .int t129), (5, .int y30), (7, .int 1), (4, .int y1), (3, .int y2), (2, .ref (r 79)), (0, .ref (r 58)), (1, .int who)]) hx hb dX3_sendFree_180 hl (k := 2) rfl et129.symm (by decide) rfl (fun ls hl => ?_)
                                    refine lv_goto (tgt := 88) hx hb dX3_sendFree_183 (by decide) ?_
                                    exact ihlp35 (qq + 1) f118 a119 g120 _ _ _ t129 y30 (km_up hmlp35 qt129) hI hG hE hk0 (kb_w b130 (by decide) (by decide)) (kb_w b48 (by decide) (by decide)) (by have w1 := hvlp35_0; have w2 := qt129; omega) ((hnn.trans (bs_y (bit1_y hrb (by rw [c56]; decide +kernel)) (Or.inr (by have w1 := (show t93.toInt = chA k qq from by rw [show t93 = B33 79 qq from et93.trans (congrArg (B33 79) (cl_nat hvlp35_0))]; exact hci qq hqP); have w2 := (show t94.toInt = chA k (bsF DD (sdF DD k (chA k) nn) (chA k) (nI nn) qq).toNatClampNeg from by rw [show t94 = _ from et94, ← hbs]; exact hci _ (by have w1 := (bs_k (DD := DD) (R := chA k) (b := nI nn) (n := qq) hks (by rw [ne_pn hne]; omega)).2; rw [← hbs, sd_o nn 102 (Or.inr (by omega))] at w1; have w2 := (kPn_b hkk).2; have w3 := (b92).1; unfold Int32.toNatClampNeg; omega)); have w3 := kc_nle c95; omega)) (by have z0 : (0 : Int32).toInt = 0 := (by decide +kernel); have w1 := (show v105.toInt = askF DD (sdF DD k (chA k) nn) 3 (nI nn) (nI qq) from by have w1 := hw104.2.2.2.2; rw [show (3 : Int32).toInt.toNat = 3 from by decide +kernel, hnb, hnn] at w1; exact w1); have w2 := congrArg Int32.toInt c111; omega) (by have z0 : (0 : Int32).toInt = 0 := (by decide +kernel); have w1 := (show v116.toInt = askF DD (sdF DD k (chA k) nn) 0 (nI nn) (nI qq) from by have w1 := hw115.2.2.2.2; rw [show (0 : Int32).toInt.toNat = 0 from by decide +kernel, hnb, hnn] at w1; exact w1); have w2 := kc_nle c122; omega)))) (hqP) ((by rw [show a119 79 = B33 79 from ((eE121.2.1 79 rfl).trans (eE110.2.1 79 rfl))]; exact hci)) hP hD hS (lv_sub hl [0, 1, 3, 4, 5, 6, 7] rfl)
                exact lp35 (11) 0 F3 B4 G5 _ _ _ 0 (-1) (by have h1 := (kc_0); unfold kb at h1; omega) hI hG hE hk0 (kb_w kc_0 (by decide) (by decide)) (kb_w kc_m1 (by decide) (by decide)) (by decide +kernel) (rfl) (Nat.zero_le _) (hch) hP hD hS (lv_sub hl [0, 1, 2, 3, 4, 5, 6] rfl)
              · have b131 : kb (-1) y2 (-1) := kb_eq c28 kc_m1
                refine lv_aload_n hx hb dX3_sendFree_66 rfl (lv_at hl 3 rfl) ?_
                refine va_get (D := D) (ci := 3) (v := .ref (r 59)) (C := RX3) (T := TX3) (N := 4) hx hb hg inC3 hown hK hP 58 rfl rfl 0 (by decide) (hg _ wt2_95) (fun _ h9 => h9) rfl dX3_sendFree_67 ?_
                refine kIG.callW (As := []) (rest := []) ⟨hx, hb, hml, hown, hg⟩ (z_readyMaskP l r F3 B4 G5 tx tt hT hI hG   (sdF DD k (chA k) nn) hk0 hks ) (cwV 0 hg (kgV wt5_15 wt3_40 wt3_41 wt1_2 wt3_42) rfl rfl rfl (by decide +kernel) ⟨by decide, by decide⟩) hV hK hP hD hS hA (59) 7 rfl rfl rfl hl.1 rfl (Nat.le_of_ble_eq_true rfl) dX3_sendFree_70 ⟨Nat.le_refl _, Nat.le_refl _⟩ (fun v133 u134 H locs hw132 hP hD hS => ?_)
                have hP : va_P D vwCl (xX K r F3 B4 G5 tx) H := hP
                have hD : va_D A (xX K r F3 B4 G5 tx) := hD
                refine lv_istore_n (lv' := [(3, .int v133), (4, .int y1), (2, .ref (r 79)), (0, .ref (r 58)), (1, .int who)]) hx hb dX3_sendFree_73 rfl hl (by decide) rfl (fun ls hl => ?_)
                refine lv_aload_n hx hb dX3_sendFree_74 rfl (lv_at hl 3 rfl) ?_
                refine va_get (D := D) (ci := 3) (v := .ref (r 59)) (C := RX3) (T := TX3) (N := 4) hx hb hg inC3 hown hK hP 58 rfl rfl 0 (by decide) (hg _ wt2_95) (fun _ h9 => h9) rfl dX3_sendFree_75 ?_
                refine kIG.callW (As := []) (rest := []) ⟨hx, hb, hml, hown, hg⟩ (z_reckonChainsP l r F3 B4 G5 tx tt hT hI hG   (sdF DD k (chA k) nn) hk0 hks ) (cwV 0 hg (kgV wt5_16 wt3_48 wt3_49 wt1_2 wt3_50) rfl rfl rfl (by decide +kernel) ⟨by decide, by decide⟩) hV hK hP hD hS hA (59) 7 rfl rfl rfl hl.1 rfl (Nat.le_of_ble_eq_true rfl) dX3_sendFree_78 ⟨Nat.le_refl _, Nat.le_refl _⟩ (fun v136 u137 H locs hw135 hP hD hS => ?_)
                obtain ⟨f138, a139, g140⟩ := u137
                have hP : va_P D vwCl (xX K r f138 a139 g140 tx) H := hP
                have hD : va_D A (xX K r f138 a139 g140 tx) := hD
                have hI : xI f138 a139 := hw135.2.1
                have hG : gOK K g140.2 tt := hw135.2.2.1
                have eE141 : xEk ([], [79], []) F3 B4 G5 f138 a139 g140 := hw135.2.2.2.1
                have hE : xEk ([], [68, 79], []) f a g f138 a139 g140 := xEk_tr hE (xEk_w (by decide +kernel) eE141)
                have hk0 : sV 1888 60 f138 a139 (sdF DD k (chA k) nn) := (sV_E hk0 eE141 (by decide +kernel) (by decide +kernel))
                have hchn := hw135.2.2.2.2.2
                refine lv_pop hx hb dX3_sendFree_81 rfl ?_
                have hrd : v133 = rdM k := hw132.2.trans (ne_rdM hne hkk)
                have hch : ∀ i, i < kPn k → (a139 79 i).toInt = chA k i := fun i hi => (hchn i (by rw [ne_pn hne]; exact hi)).trans (congrFun (ne_cA hne hkk) i)
                refine lv_iconst (v := (-1)) hx hb dX3_sendFree_82 (by decide) ?_
                refine lv_istore (lv' := [(5, .int (-1)), (3, .int v133), (4, .int y1), (2, .ref (r 79)), (0, .ref (r 58)), (1, .int who)]) hx hb dX3_sendFree_83 hl (by decide) rfl (fun ls hl => ?_)
                refine lv_iconst (v := 0) hx hb dX3_sendFree_85 (by decide) ?_
                refine lv_istore (lv' := [(6, .int 0), (5, .int (-1)), (3, .int v133), (4, .int y1), (2, .ref (r 79)), (0, .ref (r 58)), (1, .int who)]) hx hb dX3_sendFree_86 hl (by decide) rfl (fun ls hl => ?_)
                have lp147 : ∀ (n148 : Nat) (qq : Nat) (F144 : Nat → Int32) (B145 : Nat → Nat → Int32) (G146 : xG) (H : Heap) (locs : List Loc) (ls : Array Slot) (y142 : Int32) (y143 : Int32), (10 < y142.toInt + (n148 : Int)) → (xI F144 B145) → (gOK K G146.2 tt) → (xEk ([], [68, 79], []) f a g F144 B145 G146) → (sV 1888 60 F144 B145 (sdF DD k (chA k) nn)) → (kb 0 y142 10) → (kb (-1) y143 9) → (y142.toInt = (qq : Int)) → (y143 = bsF DD (sdF DD k (chA k) nn) (chA k) (nI nn) qq) → (qq ≤ kPn k) → (∀ i, i < kPn k → (B145 79 i).toInt = chA k i) → va_P D vwCl (xX K r F144 B145 G146 tx) H → va_D A (xX K r F144 B145 G146 tx) → va_S A s.heap H locs → lv_has ls 8 [(6, .int y142), (5, .int y143), (3, .int v133), (4, .int y1), (2, .ref (r 79)), (0, .ref (r 58)), (1, .int who)] → W p l e (rmD 4 0 0) s m ([.ref (r 58), .int who] : List Value).toArray below meth c H locs 0 0 (kQv D (tysK K) (fun (u : xS) => xI u.1 u.2.1 ∧ gOK K u.2.2.2 tt ∧ xEk ([], [68, 79], []) f a g u.1 u.2.1 u.2.2 ∧ sV 1888 60 u.1 u.2.1 (sdA DD k)) (fun u => xX K r u.1 u.2.1 u.2.2 tx) A below ([.ref (r 58), .int who] : List Value).toArray s 0 0) (F0 m 88 ls []) := by
                  intro n148
                  induction n148 with
                  | zero =>
                    intro qq F144 B145 G146  H locs ls y142 y143 hmlp147 hI hG hE hk0 b149 b150 hvlp147_0 hvlp147_1 hvlp147_2 hvlp147_3 hP hD hS hl
                    exact (by have h1 := b149.2; have h2 := hmlp147; omega : False).elim
                  | succ n148 ihlp147 =>
                    intro qq F144 B145 G146  H locs ls y142 y143 hmlp147 hI hG hE hk0 b149 b150 hvlp147_0 hvlp147_1 hvlp147_2 hvlp147_3 hP hD hS hl
                    have hnn : y142 = nI qq := nI_q hvlp147_0
                    have hbs := hvlp147_1
                    have hci := hvlp147_3
                    refine lv_iload hx hb dX3_sendFree_88 (lv_at hl 0 rfl) ?_
                    refine lv_aload_n hx hb dX3_sendFree_90 rfl (lv_at hl 5 rfl) ?_
                    refine va_get (D := D) (ci := 3) (v := .ref (r 59)) (C := RX3) (T := TX3) (N := 4) hx hb hg inC3 hown hK hP 58 rfl rfl 0 (by decide) (hg _ wt2_95) (fun _ h9 => h9) rfl dX3_sendFree_91 ?_
                    refine va_get (D := D) (ci := 7) (v := .int (F144 1888)) (C := RX7) (T := TX7) (N := 20) hx hb hg inC7 hown hK hP 59 rfl rfl 0 (by decide) (hg _ wt1_83) (fun _ h9 => h9) rfl dX3_sendFree_94 ?_
                    refine lv_topi (fun t151 et151 => ?_)
                    have b152 : kb 0 t151 10 := kb_eq et151 (fI_at hI.1 1888 (by decide) (by decide))
                    have kvt151 : t151 = k 102 := et151.trans ((hE.1 1888 rfl).trans (sv_parts hVw))
                    have kvit151 : t151.toInt = (k 102).toInt := congrArg Int32.toInt kvt151
                    have b153 : kb 0 t151 10 := kb_eq kvt151 (kK_r hkk 102 _ _ (by decide) (by decide))
                    refine lv_icmp_ge (tgt := 186) hx hb dX3_sendFree_97 (by decide) (fun c154 => ?_) (fun c154 => ?_)
                    · have h155 := (kc_le c154)
                      have hqe : qq = kPn k := by have w1 := hvlp147_0; have w4 := (kPn_b hkk).2; have w5 := hvlp147_2; have w6 := (kPn_b hkk).1; have w2 := kc_le c154; have w3 := kvit151; omega
                      have hbv : y143 = bsF DD (sdF DD k (chA k) nn) (chA k) (nI nn) (kPn k) := by rw [← hqe]; exact hbs
                      refine lv_aload_n hx hb dX3_sendFree_186 rfl (lv_at hl 5 rfl) ?_
                      refine va_get (D := D) (ci := 3) (v := .ref (r 59)) (C := RX3) (T := TX3) (N := 4) hx hb hg inC3 hown hK hP 58 rfl rfl 0 (by decide) (hg _ wt2_95) (fun _ h9 => h9) rfl dX3_sendFree_187 ?_
                      refine va_get (D := D) (ci := 7) (v := .ref (r 68)) (C := RX7) (T := TX7) (N := 20) hx hb hg inC7 hown hK hP 59 rfl rfl 10 (by decide) (hg _ wt1_123) (fun _ h9 => h9) rfl dX3_sendFree_190 ?_
                      refine lv_iload hx hb dX3_sendFree_193 (lv_at hl 3 rfl) ?_
                      refine lv_iload hx hb dX3_sendFree_195 (lv_at hl 1 rfl) ?_
                      have hSv0 := hk0
                      refine va_iast hx hb hK hP hD hS 68 0 rfl rfl (kb_in b15 (by decide) (by decide)) dX3_sendFree_197 (fun H locs hP hD hS => ?_)
                      have hP : va_P D vwCl (xX K r F144 (va_up B145 68 (upd (B145 68) y1.toNatClampNeg y143)) G146 tx) H := hP
                      have hD : va_D A (xX K r F144 (va_up B145 68 (upd (B145 68) y1.toNatClampNeg y143)) G146 tx) := hD
                      refine k_gen (P := fun z => va_P D vwCl (xX K r F144 z G146 tx) H ∧ va_D A (xX K r F144 z G146 tx) ∧ (xI F144 z) ∧ (gOK K G146.2 tt) ∧ (xEk ([], [68, 79], []) f a g F144 z G146)) (va_up B145 68 (upd (B145 68) y1.toNatClampNeg y143)) ⟨hP, hD, (xI_a hI (by decide)), hG, (xEk_a hE rfl)⟩ (fun a_156 ea_156 hq => ?_)
                      obtain ⟨hP, hD, hI, hG, hE⟩ := hq
                      have hnx : sV 1888 60 F144 a_156 (sdF DD k (chA k) (nn + 1)) := by rw [← sd_y (hpl.symm.trans c26) hbv]; exact sV_pl (b := nn) hSv0 rfl rfl rfl rfl rfl (fun j hj hn => by rcases (show j = 0 ∨ j = 1 ∨ j = 2 ∨ j = 3 ∨ j = 4 ∨ j = 5 ∨ j = 6 ∨ j = 7 ∨ j = 9 ∨ j = 10 ∨ j = 11 ∨ j = 12 by omega) with e9 | e9 | e9 | e9 | e9 | e9 | e9 | e9 | e9 | e9 | e9 | e9 <;> (subst e9; rw [← ea_156]; rfl)) (show a_156 68 = upd (B145 68) nn y143 from by rw [show a_156 68 = _ from (show a_156 68 = upd (B145 68) y1.toNatClampNeg y143 from by rw [← ea_156]; rfl), cl_nat hvlp6_0]) (by omega)
                      obtain ⟨t157, et157⟩ : ∃ z : Int32, z = y1 + Int32.ofInt 1 := ⟨_, rfl⟩
                      have qt157 : t157.toInt = y1.toInt + 1 := by rw [et157]; exact km_inc b15 (by decide) (by decide)
                      have b158 : kb 1 t157 6 := kb_inc (k := 1) qt157 b15
                      refine lv_iinc (v := t157) (lv' := [(4, .int t157), (6, .int y142), (5, .int y143), (3, .int v133), (2, .ref (r 79)), (0, .ref (r 58)), (1, .int who)]) hx hb dX3_sendFree_198 hl (k := 3) rfl et157.symm (by decide) rfl (fun ls hl => ?_)
                      refine lv_goto (tgt := 16) hx hb dX3_sendFree_201 (by decide) ?_
                      exact ihlp6 (nn + 1) F144 a_156 G146 _ _ _ t157 v133 (km_up hmlp6 qt157) hI hG hE (kb_w b158 (by decide) (by decide)) (kb_w hw132.1 (by decide) (by decide)) (by have w1 := hvlp6_0; have w2 := qt157; omega) (hnx) ((Or.inr ⟨hrd, by rw [show a_156 79 = B145 79 from (show a_156 79 = B145 79 from by rw [← ea_156]; rfl)]; exact hci⟩)) (hlt) hP hD hS (lv_sub hl [0, 3, 4, 5, 6] rfl)
                    · have h159 := (kc_nle c154)
                      have b160 : kb 0 y142 9 := kr_lt1 h159 b149 b153 (by decide)
                      have b161 : kb 1 t151 10 := kr_lt2 h159 b149 b153 (by decide)
                      refine lv_iload hx hb dX3_sendFree_100 (lv_at hl 0 rfl) ?_
                      refine lv_bipush (v := 10) hx hb dX3_sendFree_102 (by decide) ?_
                      refine lv_icmp_ge (tgt := 186) hx hb dX3_sendFree_104 (by decide) (fun c162 => ?_) (fun c162 => ?_)
                      · have h163 := (kc_le c162)
                        exact kb_no (kr_le1 h163 kc_10 b160) (by decide)
                      · have h164 := (kc_nle c162)
                        have hqP := (by have w1 := hvlp147_0; have w2 := kc_nle c154; have w3 := kvit151; have w4 := (kPn_b hkk).2; omega : qq < kPn k)
                        have hN10 := (kPn_b hkk).1
                        have hip : 0 ≤ y142.toInt ∧ y142.toInt < ((sdF DD k (chA k) nn) 102).toInt := ⟨(b160).1, by rw [sd_o nn 102 (Or.inr (by omega))]; have w2 := hvlp147_0; have w4 := (kPn_b hkk).2; omega⟩
                        refine lv_iload_n hx hb dX3_sendFree_107 rfl (lv_at hl 2 rfl) ?_
                        refine lv_iload hx hb dX3_sendFree_108 (lv_at hl 0 rfl) ?_
                        refine lv_ishr hx hb dX3_sendFree_110 ?_
                        refine lv_topi (fun t165 et165 => ?_)
                        refine lv_iconst (v := 1) hx hb dX3_sendFree_111 (by decide) ?_
                        refine lv_iand hx hb dX3_sendFree_112 ?_
                        refine lv_topi (fun t166 et166 => ?_)
                        have b167 : kb 0 t166 1 := kb_eq et166 (kb_and 1 (by decide) (by decide))
                        have hrb : t166 = (if rdB (sdF DD k (chA k) nn) qq = true then 1 else 0) := by rw [et166, et165, hrd, ne_rd hne hkk (by omega)]; exact rdM_t hkk hqP hnn
                        refine lv_iconst (v := 1) hx hb dX3_sendFree_113 (by decide) ?_
                        refine lv_icmp_ne (tgt := 138) hx hb dX3_sendFree_114 (by decide) (fun c168 => ?_) (fun c168 => ?_)
                        · have b169 : kb 0 t166 0 := kr_neh c168 b167 kc_1 (by decide)
                          refine lv_iconst (v := 0) hx hb dX3_sendFree_138 (by decide) ?_
                          refine lv_istore (lv' := [(7, .int 0), (6, .int y142), (5, .int y143), (3, .int v133), (4, .int y1), (2, .ref (r 79)), (0, .ref (r 58)), (1, .int who)]) hx hb dX3_sendFree_139 hl (by decide) rfl (fun ls hl => ?_)
                          refine lv_iload hx hb dX3_sendFree_141 (lv_at hl 0 rfl) ?_
                          refine lv_if_eq (tgt := 180) hx hb dX3_sendFree_143 (by decide) (fun c170 => ?_) (fun c170 => ?_)
                          · obtain ⟨t171, et171⟩ : ∃ z : Int32, z = y142 + Int32.ofInt 1 := ⟨_, rfl⟩
                            have qt171 : t171.toInt = y142.toInt + 1 := by rw [et171]; exact km_inc b160 (by decide) (by decide)
                            have b172 : kb 1 t171 10 := kb_inc (k := 1) qt171 b160
                            refine lv_iinc (v := t171) (lv' := [(6, .int t171), (7, .int 0), (5, .int y143), (3, .int v133), (4, .int y1), (2, .ref (r 79)), (0, .ref (r 58)), (1, .int who)]) hx hb dX3_sendFree_180 hl (k := 1) rfl et171.symm (by decide) rfl (fun ls hl => ?_)
                            refine lv_goto (tgt := 88) hx hb dX3_sendFree_183 (by decide) ?_
                            exact ihlp147 (qq + 1) F144 B145 G146 _ _ _ t171 y143 (km_up hmlp147 qt171) hI hG hE hk0 (kb_w b172 (by decide) (by decide)) b150 (by have w1 := hvlp147_0; have w2 := qt171; omega) ((hvlp147_1.trans (bs_r (fun q9 => c168 (hrb.trans (if_pos q9)))))) (hqP) ((by exact hci)) hP hD hS (lv_sub hl [0, 2, 3, 4, 5, 6, 7] rfl)
                          · exact kb_nsame c170 kc_0 kc_0
                        · have b173 : kb 1 t166 1 := kb_eq c168 kc_1
                          refine lv_iload hx hb dX3_sendFree_117 (lv_at hl 1 rfl) ?_
                          refine lv_iconst (v := (-1)) hx hb dX3_sendFree_119 (by decide) ?_
                          refine lv_icmp_eq (tgt := 134) hx hb dX3_sendFree_120 (by decide) (fun c174 => ?_) (fun c174 => ?_)
                          · have b175 : kb (-1) y143 (-1) := kb_eq c174 kc_m1
                            refine lv_iconst (v := 1) hx hb dX3_sendFree_134 (by decide) ?_
                            refine lv_goto (tgt := 139) hx hb dX3_sendFree_135 (by decide) ?_
                            refine lv_istore (lv' := [(7, .int 1), (6, .int y142), (5, .int y143), (3, .int v133), (4, .int y1), (2, .ref (r 79)), (0, .ref (r 58)), (1, .int who)]) hx hb dX3_sendFree_139 hl (by decide) rfl (fun ls hl => ?_)
                            refine lv_iload hx hb dX3_sendFree_141 (lv_at hl 0 rfl) ?_
                            refine lv_if_eq (tgt := 180) hx hb dX3_sendFree_143 (by decide) (fun c176 => ?_) (fun c176 => ?_)
                            · exact kb_dj c176 kc_1 kc_0 (by decide)
                            · refine lv_aload_n hx hb dX3_sendFree_146 rfl (lv_at hl 6 rfl) ?_
                              refine va_get (D := D) (ci := 3) (v := .ref (r 59)) (C := RX3) (T := TX3) (N := 4) hx hb hg inC3 hown hK hP 58 rfl rfl 0 (by decide) (hg _ wt2_95) (fun _ h9 => h9) rfl dX3_sendFree_147 ?_
                              refine lv_iconst (v := 3) hx hb dX3_sendFree_150 (by decide) ?_
                              refine lv_iload hx hb dX3_sendFree_151 (lv_at hl 4 rfl) ?_
                              refine lv_iload hx hb dX3_sendFree_153 (lv_at hl 1 rfl) ?_
                              refine kIG.callW (As := [.int 3, .int y1, .int y142]) (rest := []) ⟨hx, hb, hml, hown, hg⟩ (z_askedP l r F144 B145 G146 tx tt hT hI hG 3 y1 y142 (kb_w kc_3 (by decide) (by decide)) b15 b160 (sdF DD k (chA k) nn) hk0 hks DD (lC_6 hkk (lC_cg hL (hE.2.2 73 rfl)) (fun _ _ => rfl) (sd_o nn 105 (Or.inr (by omega)))) hib hip) (cwV 3 hg (kgV wt5_17 wt3_78 wt3_79 wt1_2 wt3_80) rfl rfl rfl (by decide +kernel) ⟨by decide, by decide⟩) hV hK hP hD hS hA (59) 7 rfl rfl rfl hl.1 rfl (Nat.le_of_ble_eq_true rfl) dX3_sendFree_155 ⟨Nat.le_refl _, Nat.le_refl _⟩ (fun v178 u179 H locs hw177 hP hD hS => ?_)
                              obtain ⟨f180, a181, g182⟩ := u179
                              have hP : va_P D vwCl (xX K r f180 a181 g182 tx) H := hP
                              have hD : va_D A (xX K r f180 a181 g182 tx) := hD
                              have hI : xI f180 a181 := hw177.2.1
                              have hG : gOK K g182.2 tt := hw177.2.2.1
                              have eE183 : xEk ([], [], []) F144 B145 G146 f180 a181 g182 := hw177.2.2.2.1
                              have hE : xEk ([], [68, 79], []) f a g f180 a181 g182 := xEk_tr hE (xEk_w (by decide +kernel) eE183)
                              have hk0 : sV 1888 60 f180 a181 (sdF DD k (chA k) nn) := (sV_E hk0 eE183 (by decide +kernel) (by decide +kernel))
                              refine lv_if_ne (tgt := 180) hx hb dX3_sendFree_158 (by decide) (fun c184 => ?_) (fun c184 => ?_)
                              · obtain ⟨t185, et185⟩ : ∃ z : Int32, z = y142 + Int32.ofInt 1 := ⟨_, rfl⟩
                                have qt185 : t185.toInt = y142.toInt + 1 := by rw [et185]; exact km_inc b160 (by decide) (by decide)
                                have b186 : kb 1 t185 10 := kb_inc (k := 1) qt185 b160
                                refine lv_iinc (v := t185) (lv' := [(6, .int t185), (7, .int 1), (5, .int y143), (3, .int v133), (4, .int y1), (2, .ref (r 79)), (0, .ref (r 58)), (1, .int who)]) hx hb dX3_sendFree_180 hl (k := 1) rfl et185.symm (by decide) rfl (fun ls hl => ?_)
                                refine lv_goto (tgt := 88) hx hb dX3_sendFree_183 (by decide) ?_
                                exact ihlp147 (qq + 1) f180 a181 g182 _ _ _ t185 y143 (km_up hmlp147 qt185) hI hG hE hk0 (kb_w b186 (by decide) (by decide)) (kb_w b175 (by decide) (by decide)) (by have w1 := hvlp147_0; have w2 := qt185; omega) ((hvlp147_1.trans (bs_b (by have z0 : (0 : Int32).toInt = 0 := (by decide +kernel); have w2 := ask_31 (DD := DD) (k := (sdF DD k (chA k) nn)) (b := nI nn) (p := nI qq) (kb_nI (N := 5) (by omega) (by decide)); have w1 := (show v178.toInt = askF DD (sdF DD k (chA k) nn) 3 (nI nn) (nI qq) from by have w1 := hw177.2.2.2.2; rw [show (3 : Int32).toInt.toNat = 3 from by decide +kernel, hnb, hnn] at w1; exact w1); have w3 : ¬ v178.toInt = 0 := (fun z9 => c184 (Int32.toInt_inj.mp (z9.trans z0.symm))); omega)))) (hqP) ((by rw [show a181 79 = B145 79 from (eE183.2.1 79 rfl)]; exact hci)) hP hD hS (lv_sub hl [0, 2, 3, 4, 5, 6, 7] rfl)
                              · have b187 : kb 0 v178 0 := kb_eq c184 kc_0
                                refine lv_aload_n hx hb dX3_sendFree_161 rfl (lv_at hl 6 rfl) ?_
                                refine va_get (D := D) (ci := 3) (v := .ref (r 59)) (C := RX3) (T := TX3) (N := 4) hx hb hg inC3 hown hK hP 58 rfl rfl 0 (by decide) (hg _ wt2_95) (fun _ h9 => h9) rfl dX3_sendFree_162 ?_
                                refine lv_iconst (v := 0) hx hb dX3_sendFree_165 (by decide) ?_
                                refine lv_iload hx hb dX3_sendFree_166 (lv_at hl 4 rfl) ?_
                                refine lv_iload hx hb dX3_sendFree_168 (lv_at hl 1 rfl) ?_
                                refine kIG.callW (As := [.int 0, .int y1, .int y142]) (rest := []) ⟨hx, hb, hml, hown, hg⟩ (z_askedP l r f180 a181 g182 tx tt hT hI hG 0 y1 y142 (kb_w kc_0 (by decide) (by decide)) b15 b160 (sdF DD k (chA k) nn) hk0 hks DD (lC_6 hkk (lC_cg hL (hE.2.2 73 rfl)) (fun _ _ => rfl) (sd_o nn 105 (Or.inr (by omega)))) hib hip) (cwV 3 hg (kgV wt5_17 wt3_78 wt3_79 wt1_2 wt3_80) rfl rfl rfl (by decide +kernel) ⟨by decide, by decide⟩) hV hK hP hD hS hA (59) 7 rfl rfl rfl hl.1 rfl (Nat.le_of_ble_eq_true rfl) dX3_sendFree_170 ⟨Nat.le_refl _, Nat.le_refl _⟩ (fun v189 u190 H locs hw188 hP hD hS => ?_)
                                obtain ⟨f191, a192, g193⟩ := u190
                                have hP : va_P D vwCl (xX K r f191 a192 g193 tx) H := hP
                                have hD : va_D A (xX K r f191 a192 g193 tx) := hD
                                have hI : xI f191 a192 := hw188.2.1
                                have hG : gOK K g193.2 tt := hw188.2.2.1
                                have eE194 : xEk ([], [], []) f180 a181 g182 f191 a192 g193 := hw188.2.2.2.1
                                have hE : xEk ([], [68, 79], []) f a g f191 a192 g193 := xEk_tr hE (xEk_w (by decide +kernel) eE194)
                                have hk0 : sV 1888 60 f191 a192 (sdF DD k (chA k) nn) := (sV_E hk0 eE194 (by decide +kernel) (by decide +kernel))
                                refine lv_if_le (tgt := 180) hx hb dX3_sendFree_173 (by decide) (fun c195 => ?_) (fun c195 => ?_)
                                · have h196 := (kc_le c195)
                                  have b197 : kb (-2147483648) v189 0 := kr_le1 h196 (kb_any v189) kc_0
                                  obtain ⟨t198, et198⟩ : ∃ z : Int32, z = y142 + Int32.ofInt 1 := ⟨_, rfl⟩
                                  have qt198 : t198.toInt = y142.toInt + 1 := by rw [et198]; exact km_inc b160 (by decide) (by decide)
                                  have b199 : kb 1 t198 10 := kb_inc (k := 1) qt198 b160
                                  refine lv_iinc (v := t198) (lv' := [(6, .int t198), (7, .int 1), (5, .int y143), (3, .int v133), (4, .int y1), (2, .ref (r 79)), (0, .ref (r 58)), (1, .int who)]) hx hb dX3_sendFree_180 hl (k := 1) rfl et198.symm (by decide) rfl (fun ls hl => ?_)
                                  refine lv_goto (tgt := 88) hx hb dX3_sendFree_183 (by decide) ?_
                                  exact ihlp147 (qq + 1) f191 a192 g193 _ _ _ t198 y143 (km_up hmlp147 qt198) hI hG hE hk0 (kb_w b199 (by decide) (by decide)) (kb_w b175 (by decide) (by decide)) (by have w1 := hvlp147_0; have w2 := qt198; omega) ((hvlp147_1.trans (bs_w (by have z0 : (0 : Int32).toInt = 0 := (by decide +kernel); have w1 := (show v189.toInt = askF DD (sdF DD k (chA k) nn) 0 (nI nn) (nI qq) from by have w1 := hw188.2.2.2.2; rw [show (0 : Int32).toInt.toNat = 0 from by decide +kernel, hnb, hnn] at w1; exact w1); have w2 := kc_le c195; omega)))) (hqP) ((by rw [show a192 79 = B145 79 from ((eE194.2.1 79 rfl).trans (eE183.2.1 79 rfl))]; exact hci)) hP hD hS (lv_sub hl [0, 2, 3, 4, 5, 6, 7] rfl)
                                · have h200 := (kc_nle c195)
                                  have b201 : kb 1 v189 2147483647 := kr_lt2 h200 kc_0 (kb_any v189) (by decide)
                                  refine lv_iload hx hb dX3_sendFree_176 (lv_at hl 1 rfl) ?_
                                  refine lv_istore (lv' := [(5, .int y142), (7, .int 1), (6, .int y142), (3, .int v133), (4, .int y1), (2, .ref (r 79)), (0, .ref (r 58)), (1, .int who)]) hx hb dX3_sendFree_178 hl (by decide) rfl (fun ls hl => ?_)
                                  obtain ⟨t202, et202⟩ : ∃ z : Int32, z = y142 + Int32.ofInt 1 := ⟨_, rfl⟩
                                  have qt202 : t202.toInt = y142.toInt + 1 := by rw [et202]; exact km_inc b160 (by decide) (by decide)
                                  have b203 : kb 1 t202 10 := kb_inc (k := 1) qt202 b160
                                  refine lv_iinc (v := t202) (lv' := [(6, .int t202), (5, .int y142), (7, .int 1), (3, .int v133), (4, .int y1), (2, .ref (r 79)), (0, .ref (r 58)), (1, .int who)]) hx hb dX3_sendFree_180 hl (k := 2) rfl et202.symm (by decide) rfl (fun ls hl => ?_)
                                  refine lv_goto (tgt := 88) hx hb dX3_sendFree_183 (by decide) ?_
                                  exact ihlp147 (qq + 1) f191 a192 g193 _ _ _ t202 y142 (km_up hmlp147 qt202) hI hG hE hk0 (kb_w b203 (by decide) (by decide)) (kb_w b160 (by decide) (by decide)) (by have w1 := hvlp147_0; have w2 := qt202; omega) ((hnn.trans (bs_y (bit1_y hrb (by rw [c168]; decide +kernel)) (Or.inl (hbs.symm.trans c174)) (by have z0 : (0 : Int32).toInt = 0 := (by decide +kernel); have w1 := (show v178.toInt = askF DD (sdF DD k (chA k) nn) 3 (nI nn) (nI qq) from by have w1 := hw177.2.2.2.2; rw [show (3 : Int32).toInt.toNat = 3 from by decide +kernel, hnb, hnn] at w1; exact w1); have w2 := congrArg Int32.toInt c184; omega) (by have z0 : (0 : Int32).toInt = 0 := (by decide +kernel); have w1 := (show v189.toInt = askF DD (sdF DD k (chA k) nn) 0 (nI nn) (nI qq) from by have w1 := hw188.2.2.2.2; rw [show (0 : Int32).toInt.toNat = 0 from by decide +kernel, hnb, hnn] at w1; exact w1); have w2 := kc_nle c195; omega)))) (hqP) ((by rw [show a192 79 = B145 79 from ((eE194.2.1 79 rfl).trans (eE183.2.1 79 rfl))]; exact hci)) hP hD hS (lv_sub hl [0, 1, 3, 4, 5, 6, 7] rfl)
                          · have b204 : kb 0 y143 9 := kr_nel c174 b150 kc_m1 (by decide)
                            refine lv_aload_n hx hb dX3_sendFree_123 rfl (lv_at hl 4 rfl) ?_
                            refine lv_iload hx hb dX3_sendFree_124 (lv_at hl 0 rfl) ?_
                            refine va_iald hx hb hK hP 79 0 rfl rfl (kb_in b160 (by decide) (by decide)) dX3_sendFree_126 ?_
                            refine lv_topi (fun t205 et205 => ?_)
                            refine lv_aload_n hx hb dX3_sendFree_127 rfl (lv_at hl 4 rfl) ?_
                            refine lv_iload hx hb dX3_sendFree_128 (lv_at hl 1 rfl) ?_
                            refine va_iald hx hb hK hP 79 0 rfl rfl (kb_in b204 (by decide) (by decide)) dX3_sendFree_130 ?_
                            refine lv_topi (fun t206 et206 => ?_)
                            refine lv_icmp_le (tgt := 138) hx hb dX3_sendFree_131 (by decide) (fun c207 => ?_) (fun c207 => ?_)
                            · have h208 := (kc_le c207)
                              refine lv_iconst (v := 0) hx hb dX3_sendFree_138 (by decide) ?_
                              refine lv_istore (lv' := [(7, .int 0), (6, .int y142), (5, .int y143), (3, .int v133), (4, .int y1), (2, .ref (r 79)), (0, .ref (r 58)), (1, .int who)]) hx hb dX3_sendFree_139 hl (by decide) rfl (fun ls hl => ?_)
                              refine lv_iload hx hb dX3_sendFree_141 (lv_at hl 0 rfl) ?_
                              refine lv_if_eq (tgt := 180) hx hb dX3_sendFree_143 (by decide) (fun c209 => ?_) (fun c209 => ?_)
                              · obtain ⟨t210, et210⟩ : ∃ z : Int32, z = y142 + Int32.ofInt 1 := ⟨_, rfl⟩
                                have qt210 : t210.toInt = y142.toInt + 1 := by rw [et210]; exact km_inc b160 (by decide) (by decide)
                                have b211 : kb 1 t210 10 := kb_inc (k := 1) qt210 b160
                                refine lv_iinc (v := t210) (lv' := [(6, .int t210), (7, .int 0), (5, .int y143), (3, .int v133), (4, .int y1), (2, .ref (r 79)), (0, .ref (r 58)), (1, .int who)]) hx hb dX3_sendFree_180 hl (k := 1) rfl et210.symm (by decide) rfl (fun ls hl => ?_)
                                refine lv_goto (tgt := 88) hx hb dX3_sendFree_183 (by decide) ?_
                                exact ihlp147 (qq + 1) F144 B145 G146 _ _ _ t210 y143 (km_up hmlp147 qt210) hI hG hE hk0 (kb_w b211 (by decide) (by decide)) (kb_w b204 (by decide) (by decide)) (by have w1 := hvlp147_0; have w2 := qt210; omega) ((hvlp147_1.trans (bs_l (fun q => c174 (hbs.trans q)) (by have w1 := (show t205.toInt = chA k qq from by rw [show t205 = B145 79 qq from et205.trans (congrArg (B145 79) (cl_nat hvlp147_0))]; exact hci qq hqP); have w2 := (show t206.toInt = chA k (bsF DD (sdF DD k (chA k) nn) (chA k) (nI nn) qq).toNatClampNeg from by rw [show t206 = _ from et206, ← hbs]; exact hci _ (by have w1 := (bs_k (DD := DD) (R := chA k) (b := nI nn) (n := qq) hks (by rw [ne_pn hne]; omega)).2; rw [← hbs, sd_o nn 102 (Or.inr (by omega))] at w1; have w2 := (kPn_b hkk).2; have w3 := (b204).1; unfold Int32.toNatClampNeg; omega)); have w3 := kc_le c207; omega)))) (hqP) ((by exact hci)) hP hD hS (lv_sub hl [0, 2, 3, 4, 5, 6, 7] rfl)
                              · exact kb_nsame c209 kc_0 kc_0
                            · have h212 := (kc_nle c207)
                              have b213 : kb (-2147483648) t206 2147483646 := kr_lt1 h212 (kb_any t206) (kb_any t205) (by decide)
                              have b214 : kb (-2147483647) t205 2147483647 := kr_lt2 h212 (kb_any t206) (kb_any t205) (by decide)
                              refine lv_iconst (v := 1) hx hb dX3_sendFree_134 (by decide) ?_
                              refine lv_goto (tgt := 139) hx hb dX3_sendFree_135 (by decide) ?_
                              refine lv_istore (lv' := [(7, .int 1), (6, .int y142), (5, .int y143), (3, .int v133), (4, .int y1), (2, .ref (r 79)), (0, .ref (r 58)), (1, .int who)]) hx hb dX3_sendFree_139 hl (by decide) rfl (fun ls hl => ?_)
                              refine lv_iload hx hb dX3_sendFree_141 (lv_at hl 0 rfl) ?_
                              refine lv_if_eq (tgt := 180) hx hb dX3_sendFree_143 (by decide) (fun c215 => ?_) (fun c215 => ?_)
                              · exact kb_dj c215 kc_1 kc_0 (by decide)
                              · refine lv_aload_n hx hb dX3_sendFree_146 rfl (lv_at hl 6 rfl) ?_
                                refine va_get (D := D) (ci := 3) (v := .ref (r 59)) (C := RX3) (T := TX3) (N := 4) hx hb hg inC3 hown hK hP 58 rfl rfl 0 (by decide) (hg _ wt2_95) (fun _ h9 => h9) rfl dX3_sendFree_147 ?_
                                refine lv_iconst (v := 3) hx hb dX3_sendFree_150 (by decide) ?_
                                refine lv_iload hx hb dX3_sendFree_151 (lv_at hl 4 rfl) ?_
                                refine lv_iload hx hb dX3_sendFree_153 (lv_at hl 1 rfl) ?_
                                refine kIG.callW (As := [.int 3, .int y1, .int y142]) (rest := []) ⟨hx, hb, hml, hown, hg⟩ (z_askedP l r F144 B145 G146 tx tt hT hI hG 3 y1 y142 (kb_w kc_3 (by decide) (by decide)) b15 b160 (sdF DD k (chA k) nn) hk0 hks DD (lC_6 hkk (lC_cg hL (hE.2.2 73 rfl)) (fun _ _ => rfl) (sd_o nn 105 (Or.inr (by omega)))) hib hip) (cwV 3 hg (kgV wt5_17 wt3_78 wt3_79 wt1_2 wt3_80) rfl rfl rfl (by decide +kernel) ⟨by decide, by decide⟩) hV hK hP hD hS hA (59) 7 rfl rfl rfl hl.1 rfl (Nat.le_of_ble_eq_true rfl) dX3_sendFree_155 ⟨Nat.le_refl _, Nat.le_refl _⟩ (fun v217 u218 H locs hw216 hP hD hS => ?_)
                                obtain ⟨f219, a220, g221⟩ := u218
                                have hP : va_P D vwCl (xX K r f219 a220 g221 tx) H := hP
                                have hD : va_D A (xX K r f219 a220 g221 tx) := hD
                                have hI : xI f219 a220 := hw216.2.1
                                have hG : gOK K g221.2 tt := hw216.2.2.1
                                have eE222 : xEk ([], [], []) F144 B145 G146 f219 a220 g221 := hw216.2.2.2.1
                                have hE : xEk ([], [68, 79], []) f a g f219 a220 g221 := xEk_tr hE (xEk_w (by decide +kernel) eE222)
                                have hk0 : sV 1888 60 f219 a220 (sdF DD k (chA k) nn) := (sV_E hk0 eE222 (by decide +kernel) (by decide +kernel))
                                refine lv_if_ne (tgt := 180) hx hb dX3_sendFree_158 (by decide) (fun c223 => ?_) (fun c223 => ?_)
                                · obtain ⟨t224, et224⟩ : ∃ z : Int32, z = y142 + Int32.ofInt 1 := ⟨_, rfl⟩
                                  have qt224 : t224.toInt = y142.toInt + 1 := by rw [et224]; exact km_inc b160 (by decide) (by decide)
                                  have b225 : kb 1 t224 10 := kb_inc (k := 1) qt224 b160
                                  refine lv_iinc (v := t224) (lv' := [(6, .int t224), (7, .int 1), (5, .int y143), (3, .int v133), (4, .int y1), (2, .ref (r 79)), (0, .ref (r 58)), (1, .int who)]) hx hb dX3_sendFree_180 hl (k := 1) rfl et224.symm (by decide) rfl (fun ls hl => ?_)
                                  refine lv_goto (tgt := 88) hx hb dX3_sendFree_183 (by decide) ?_
                                  exact ihlp147 (qq + 1) f219 a220 g221 _ _ _ t224 y143 (km_up hmlp147 qt224) hI hG hE hk0 (kb_w b225 (by decide) (by decide)) (kb_w b204 (by decide) (by decide)) (by have w1 := hvlp147_0; have w2 := qt224; omega) ((hvlp147_1.trans (bs_b (by have z0 : (0 : Int32).toInt = 0 := (by decide +kernel); have w2 := ask_31 (DD := DD) (k := (sdF DD k (chA k) nn)) (b := nI nn) (p := nI qq) (kb_nI (N := 5) (by omega) (by decide)); have w1 := (show v217.toInt = askF DD (sdF DD k (chA k) nn) 3 (nI nn) (nI qq) from by have w1 := hw216.2.2.2.2; rw [show (3 : Int32).toInt.toNat = 3 from by decide +kernel, hnb, hnn] at w1; exact w1); have w3 : ¬ v217.toInt = 0 := (fun z9 => c223 (Int32.toInt_inj.mp (z9.trans z0.symm))); omega)))) (hqP) ((by rw [show a220 79 = B145 79 from (eE222.2.1 79 rfl)]; exact hci)) hP hD hS (lv_sub hl [0, 2, 3, 4, 5, 6, 7] rfl)
                                · have b226 : kb 0 v217 0 := kb_eq c223 kc_0
                                  refine lv_aload_n hx hb dX3_sendFree_161 rfl (lv_at hl 6 rfl) ?_
                                  refine va_get (D := D) (ci := 3) (v := .ref (r 59)) (C := RX3) (T := TX3) (N := 4) hx hb hg inC3 hown hK hP 58 rfl rfl 0 (by decide) (hg _ wt2_95) (fun _ h9 => h9) rfl dX3_sendFree_162 ?_
                                  refine lv_iconst (v := 0) hx hb dX3_sendFree_165 (by decide) ?_
                                  refine lv_iload hx hb dX3_sendFree_166 (lv_at hl 4 rfl) ?_
                                  refine lv_iload hx hb dX3_sendFree_168 (lv_at hl 1 rfl) ?_
                                  refine kIG.callW (As := [.int 0, .int y1, .int y142]) (rest := []) ⟨hx, hb, hml, hown, hg⟩ (z_askedP l r f219 a220 g221 tx tt hT hI hG 0 y1 y142 (kb_w kc_0 (by decide) (by decide)) b15 b160 (sdF DD k (chA k) nn) hk0 hks DD (lC_6 hkk (lC_cg hL (hE.2.2 73 rfl)) (fun _ _ => rfl) (sd_o nn 105 (Or.inr (by omega)))) hib hip) (cwV 3 hg (kgV wt5_17 wt3_78 wt3_79 wt1_2 wt3_80) rfl rfl rfl (by decide +kernel) ⟨by decide, by decide⟩) hV hK hP hD hS hA (59) 7 rfl rfl rfl hl.1 rfl (Nat.le_of_ble_eq_true rfl) dX3_sendFree_170 ⟨Nat.le_refl _, Nat.le_refl _⟩ (fun v228 u229 H locs hw227 hP hD hS => ?_)
                                  obtain ⟨f230, a231, g232⟩ := u229
                                  have hP : va_P D vwCl (xX K r f230 a231 g232 tx) H := hP
                                  have hD : va_D A (xX K r f230 a231 g232 tx) := hD
                                  have hI : xI f230 a231 := hw227.2.1
                                  have hG : gOK K g232.2 tt := hw227.2.2.1
                                  have eE233 : xEk ([], [], []) f219 a220 g221 f230 a231 g232 := hw227.2.2.2.1
                                  have hE : xEk ([], [68, 79], []) f a g f230 a231 g232 := xEk_tr hE (xEk_w (by decide +kernel) eE233)
                                  have hk0 : sV 1888 60 f230 a231 (sdF DD k (chA k) nn) := (sV_E hk0 eE233 (by decide +kernel) (by decide +kernel))
                                  refine lv_if_le (tgt := 180) hx hb dX3_sendFree_173 (by decide) (fun c234 => ?_) (fun c234 => ?_)
                                  · have h235 := (kc_le c234)
                                    have b236 : kb (-2147483648) v228 0 := kr_le1 h235 (kb_any v228) kc_0
                                    obtain ⟨t237, et237⟩ : ∃ z : Int32, z = y142 + Int32.ofInt 1 := ⟨_, rfl⟩
                                    have qt237 : t237.toInt = y142.toInt + 1 := by rw [et237]; exact km_inc b160 (by decide) (by decide)
                                    have b238 : kb 1 t237 10 := kb_inc (k := 1) qt237 b160
                                    refine lv_iinc (v := t237) (lv' := [(6, .int t237), (7, .int 1), (5, .int y143), (3, .int v133), (4, .int y1), (2, .ref (r 79)), (0, .ref (r 58)), (1, .int who)]) hx hb dX3_sendFree_180 hl (k := 1) rfl et237.symm (by decide) rfl (fun ls hl => ?_)
                                    refine lv_goto (tgt := 88) hx hb dX3_sendFree_183 (by decide) ?_
                                    exact ihlp147 (qq + 1) f230 a231 g232 _ _ _ t237 y143 (km_up hmlp147 qt237) hI hG hE hk0 (kb_w b238 (by decide) (by decide)) (kb_w b204 (by decide) (by decide)) (by have w1 := hvlp147_0; have w2 := qt237; omega) ((hvlp147_1.trans (bs_w (by have z0 : (0 : Int32).toInt = 0 := (by decide +kernel); have w1 := (show v228.toInt = askF DD (sdF DD k (chA k) nn) 0 (nI nn) (nI qq) from by have w1 := hw227.2.2.2.2; rw [show (0 : Int32).toInt.toNat = 0 from by decide +kernel, hnb, hnn] at w1; exact w1); have w2 := kc_le c234; omega)))) (hqP) ((by rw [show a231 79 = B145 79 from ((eE233.2.1 79 rfl).trans (eE222.2.1 79 rfl))]; exact hci)) hP hD hS (lv_sub hl [0, 2, 3, 4, 5, 6, 7] rfl)
                                  · have h239 := (kc_nle c234)
                                    have b240 : kb 1 v228 2147483647 := kr_lt2 h239 kc_0 (kb_any v228) (by decide)
                                    refine lv_iload hx hb dX3_sendFree_176 (lv_at hl 1 rfl) ?_
                                    refine lv_istore (lv' := [(5, .int y142), (7, .int 1), (6, .int y142), (3, .int v133), (4, .int y1), (2, .ref (r 79)), (0, .ref (r 58)), (1, .int who)]) hx hb dX3_sendFree_178 hl (by decide) rfl (fun ls hl => ?_)
                                    obtain ⟨t241, et241⟩ : ∃ z : Int32, z = y142 + Int32.ofInt 1 := ⟨_, rfl⟩
                                    have qt241 : t241.toInt = y142.toInt + 1 := by rw [et241]; exact km_inc b160 (by decide) (by decide)
                                    have b242 : kb 1 t241 10 := kb_inc (k := 1) qt241 b160
                                    refine lv_iinc (v := t241) (lv' := [(6, .int t241), (5, .int y142), (7, .int 1), (3, .int v133), (4, .int y1), (2, .ref (r 79)), (0, .ref (r 58)), (1, .int who)]) hx hb dX3_sendFree_180 hl (k := 2) rfl et241.symm (by decide) rfl (fun ls hl => ?_)
                                    refine lv_goto (tgt := 88) hx hb dX3_sendFree_183 (by decide) ?_
                                    exact ihlp147 (qq + 1) f230 a231 g232 _ _ _ t241 y142 (km_up hmlp147 qt241) hI hG hE hk0 (kb_w b242 (by decide) (by decide)) (kb_w b160 (by decide) (by decide)) (by have w1 := hvlp147_0; have w2 := qt241; omega) ((hnn.trans (bs_y (bit1_y hrb (by rw [c168]; decide +kernel)) (Or.inr (by have w1 := (show t205.toInt = chA k qq from by rw [show t205 = B145 79 qq from et205.trans (congrArg (B145 79) (cl_nat hvlp147_0))]; exact hci qq hqP); have w2 := (show t206.toInt = chA k (bsF DD (sdF DD k (chA k) nn) (chA k) (nI nn) qq).toNatClampNeg from by rw [show t206 = _ from et206, ← hbs]; exact hci _ (by have w1 := (bs_k (DD := DD) (R := chA k) (b := nI nn) (n := qq) hks (by rw [ne_pn hne]; omega)).2; rw [← hbs, sd_o nn 102 (Or.inr (by omega))] at w1; have w2 := (kPn_b hkk).2; have w3 := (b204).1; unfold Int32.toNatClampNeg; omega)); have w3 := kc_nle c207; omega)) (by have z0 : (0 : Int32).toInt = 0 := (by decide +kernel); have w1 := (show v217.toInt = askF DD (sdF DD k (chA k) nn) 3 (nI nn) (nI qq) from by have w1 := hw216.2.2.2.2; rw [show (3 : Int32).toInt.toNat = 3 from by decide +kernel, hnb, hnn] at w1; exact w1); have w2 := congrArg Int32.toInt c223; omega) (by have z0 : (0 : Int32).toInt = 0 := (by decide +kernel); have w1 := (show v228.toInt = askF DD (sdF DD k (chA k) nn) 0 (nI nn) (nI qq) from by have w1 := hw227.2.2.2.2; rw [show (0 : Int32).toInt.toNat = 0 from by decide +kernel, hnb, hnn] at w1; exact w1); have w2 := kc_nle c234; omega)))) (hqP) ((by rw [show a231 79 = B145 79 from ((eE233.2.1 79 rfl).trans (eE222.2.1 79 rfl))]; exact hci)) hP hD hS (lv_sub hl [0, 1, 3, 4, 5, 6, 7] rfl)
                exact lp147 (11) 0 f138 a139 g140 _ _ _ 0 (-1) (by have h1 := (kc_0); unfold kb at h1; omega) hI hG hE hk0 (kb_w kc_0 (by decide) (by decide)) (kb_w kc_m1 (by decide) (by decide)) (by decide +kernel) (rfl) (Nat.zero_le _) (hch) hP hD hS (lv_sub hl [0, 1, 2, 3, 4, 5, 6] rfl)
            · have b243 : kb 0 t24 9 := kr_nel c26 b25 kc_m1 (by decide)
              refine lv_goto (tgt := 198) hx hb dX3_sendFree_58 (by decide) ?_
              have hnx : sV 1888 60 F3 B4 (sdF DD k (chA k) (nn + 1)) := by rw [← sd_n (fun q9 => c26 (hpl.trans q9))]; exact hk0
              obtain ⟨t244, et244⟩ : ∃ z : Int32, z = y1 + Int32.ofInt 1 := ⟨_, rfl⟩
              have qt244 : t244.toInt = y1.toInt + 1 := by rw [et244]; exact km_inc b15 (by decide) (by decide)
              have b245 : kb 1 t244 6 := kb_inc (k := 1) qt244 b15
              refine lv_iinc (v := t244) (lv' := [(4, .int t244), (3, .int y2), (2, .ref (r 79)), (0, .ref (r 58)), (1, .int who)]) hx hb dX3_sendFree_198 hl (k := 0) rfl et244.symm (by decide) rfl (fun ls hl => ?_)
              refine lv_goto (tgt := 16) hx hb dX3_sendFree_201 (by decide) ?_
              exact ihlp6 (nn + 1) F3 B4 G5 _ _ _ t244 y2 (km_up hmlp6 qt244) hI hG hE (kb_w b245 (by decide) (by decide)) b9 (by have w1 := hvlp6_0; have w2 := qt244; omega) (hnx) (hvlp6_2) (hlt) hP hD hS (lv_sub hl [0, 1, 2, 3, 4] rfl)
  exact lp6 (7) 0 f a g _ _ _ 0 (-1) (by have h1 := (kc_0); unfold kb at h1; omega) hI hG hE (kb_w kc_0 (by decide) (by decide)) (kb_w kc_m1 (by decide) (by decide)) (by decide +kernel) (hVw) (Or.inl rfl) (Nat.zero_le _) hP hD hS (lv_sub hl [0, 1, 2, 3, 4] rfl)
