theorem dX11_feed_0 : decode cX11_feed 0 = .ok (.aload_n 0, 1) := by decide +kernel
theorem dX11_feed_1 : decode cX11_feed 1 = .ok (.getfield 94, 3) := by decide +kernel
theorem dX11_feed_4 : decode cX11_feed 4 = .ok (.ifCond .lt 13, 3) := by decide +kernel
theorem dX11_feed_7 : decode cX11_feed 7 = .ok (.aload_n 0, 1) := by decide +kernel
theorem dX11_feed_8 : decode cX11_feed 8 = .ok (.getfield 94, 3) := by decide +kernel
theorem dX11_feed_11 : decode cX11_feed 11 = .ok (.sipush 380, 3) := by decide +kernel
theorem dX11_feed_14 : decode cX11_feed 14 = .ok (.if_icmp .le 5, 3) := by decide +kernel
theorem dX11_feed_17 : decode cX11_feed 17 = .ok (.iconst (-1), 1) := by decide +kernel
theorem dX11_feed_18 : decode cX11_feed 18 = .ok (.ireturn, 1) := by decide +kernel
theorem dX11_feed_19 : decode cX11_feed 19 = .ok (.aload_n 0, 1) := by decide +kernel
theorem dX11_feed_20 : decode cX11_feed 20 = .ok (.aload_n 0, 1) := by decide +kernel
theorem dX11_feed_21 : decode cX11_feed 21 = .ok (.getfield 94, 3) := by decide +kernel
theorem dX11_feed_24 : decode cX11_feed 24 = .ok (.iload_n 1, 1) := by decide +kernel
theorem dX11_feed_25 : decode cX11_feed 25 = .ok (.invokevirtual 194, 3) := by decide +kernel
theorem dX11_feed_28 : decode cX11_feed 28 = .ok (.aload_n 0, 1) := by decide +kernel
theorem dX11_feed_29 : decode cX11_feed 29 = .ok (.aload_n 0, 1) := by decide +kernel
theorem dX11_feed_30 : decode cX11_feed 30 = .ok (.getfield 94, 3) := by decide +kernel
theorem dX11_feed_33 : decode cX11_feed 33 = .ok (.iconst 4, 1) := by decide +kernel
theorem dX11_feed_34 : decode cX11_feed 34 = .ok (.iadd, 1) := by decide +kernel
theorem dX11_feed_35 : decode cX11_feed 35 = .ok (.iload_n 2, 1) := by decide +kernel
theorem dX11_feed_36 : decode cX11_feed 36 = .ok (.invokevirtual 194, 3) := by decide +kernel
theorem dX11_feed_39 : decode cX11_feed 39 = .ok (.aload_n 0, 1) := by decide +kernel
theorem dX11_feed_40 : decode cX11_feed 40 = .ok (.aload_n 0, 1) := by decide +kernel
theorem dX11_feed_41 : decode cX11_feed 41 = .ok (.getfield 94, 3) := by decide +kernel
theorem dX11_feed_44 : decode cX11_feed 44 = .ok (.bipush 8, 2) := by decide +kernel
theorem dX11_feed_46 : decode cX11_feed 46 = .ok (.iadd, 1) := by decide +kernel
theorem dX11_feed_47 : decode cX11_feed 47 = .ok (.iload_n 3, 1) := by decide +kernel
theorem dX11_feed_48 : decode cX11_feed 48 = .ok (.invokevirtual 194, 3) := by decide +kernel
theorem dX11_feed_51 : decode cX11_feed 51 = .ok (.aload_n 0, 1) := by decide +kernel
theorem dX11_feed_52 : decode cX11_feed 52 = .ok (.aload_n 0, 1) := by decide +kernel
theorem dX11_feed_53 : decode cX11_feed 53 = .ok (.getfield 94, 3) := by decide +kernel
theorem dX11_feed_56 : decode cX11_feed 56 = .ok (.bipush 12, 2) := by decide +kernel
theorem dX11_feed_58 : decode cX11_feed 58 = .ok (.iadd, 1) := by decide +kernel
theorem dX11_feed_59 : decode cX11_feed 59 = .ok (.iload 4, 2) := by decide +kernel
theorem dX11_feed_61 : decode cX11_feed 61 = .ok (.invokevirtual 194, 3) := by decide +kernel
theorem dX11_feed_64 : decode cX11_feed 64 = .ok (.aload_n 0, 1) := by decide +kernel
theorem dX11_feed_65 : decode cX11_feed 65 = .ok (.aload_n 0, 1) := by decide +kernel
theorem dX11_feed_66 : decode cX11_feed 66 = .ok (.getfield 94, 3) := by decide +kernel
theorem dX11_feed_69 : decode cX11_feed 69 = .ok (.bipush 16, 2) := by decide +kernel
theorem dX11_feed_71 : decode cX11_feed 71 = .ok (.iadd, 1) := by decide +kernel
theorem dX11_feed_72 : decode cX11_feed 72 = .ok (.iload 5, 2) := by decide +kernel
theorem dX11_feed_74 : decode cX11_feed 74 = .ok (.invokevirtual 194, 3) := by decide +kernel
theorem dX11_feed_77 : decode cX11_feed 77 = .ok (.aload_n 0, 1) := by decide +kernel
theorem dX11_feed_78 : decode cX11_feed 78 = .ok (.dup, 1) := by decide +kernel
theorem dX11_feed_79 : decode cX11_feed 79 = .ok (.getfield 94, 3) := by decide +kernel
theorem dX11_feed_82 : decode cX11_feed 82 = .ok (.bipush 20, 2) := by decide +kernel
theorem dX11_feed_84 : decode cX11_feed 84 = .ok (.iadd, 1) := by decide +kernel
theorem dX11_feed_85 : decode cX11_feed 85 = .ok (.putfield 94, 3) := by decide +kernel
theorem dX11_feed_88 : decode cX11_feed 88 = .ok (.aload_n 0, 1) := by decide +kernel
theorem dX11_feed_89 : decode cX11_feed 89 = .ok (.getfield 94, 3) := by decide +kernel
theorem dX11_feed_92 : decode cX11_feed 92 = .ok (.ireturn, 1) := by decide +kernel
theorem dX11_writeNumber_0 : decode cX11_writeNumber 0 = .ok (.iconst 0, 1) := by decide +kernel
theorem dX11_writeNumber_1 : decode cX11_writeNumber 1 = .ok (.istore_n 3, 1) := by decide +kernel
theorem dX11_writeNumber_2 : decode cX11_writeNumber 2 = .ok (.iload_n 3, 1) := by decide +kernel
theorem dX11_writeNumber_3 : decode cX11_writeNumber 3 = .ok (.iconst 4, 1) := by decide +kernel
theorem dX11_writeNumber_4 : decode cX11_writeNumber 4 = .ok (.if_icmp .ge 44, 3) := by decide +kernel
theorem dX11_writeNumber_7 : decode cX11_writeNumber 7 = .ok (.iload_n 1, 1) := by decide +kernel
theorem dX11_writeNumber_8 : decode cX11_writeNumber 8 = .ok (.iload_n 3, 1) := by decide +kernel
theorem dX11_writeNumber_9 : decode cX11_writeNumber 9 = .ok (.iadd, 1) := by decide +kernel
theorem dX11_writeNumber_10 : decode cX11_writeNumber 10 = .ok (.ifCond .lt 32, 3) := by decide +kernel
theorem dX11_writeNumber_13 : decode cX11_writeNumber 13 = .ok (.iload_n 1, 1) := by decide +kernel
theorem dX11_writeNumber_14 : decode cX11_writeNumber 14 = .ok (.iload_n 3, 1) := by decide +kernel
theorem dX11_writeNumber_15 : decode cX11_writeNumber 15 = .ok (.iadd, 1) := by decide +kernel
theorem dX11_writeNumber_16 : decode cX11_writeNumber 16 = .ok (.aload_n 0, 1) := by decide +kernel
theorem dX11_writeNumber_17 : decode cX11_writeNumber 17 = .ok (.getfield 86, 3) := by decide +kernel
theorem dX11_writeNumber_20 : decode cX11_writeNumber 20 = .ok (.arraylength, 1) := by decide +kernel
theorem dX11_writeNumber_21 : decode cX11_writeNumber 21 = .ok (.if_icmp .ge 21, 3) := by decide +kernel
theorem dX11_writeNumber_24 : decode cX11_writeNumber 24 = .ok (.aload_n 0, 1) := by decide +kernel
theorem dX11_writeNumber_25 : decode cX11_writeNumber 25 = .ok (.getfield 86, 3) := by decide +kernel
theorem dX11_writeNumber_28 : decode cX11_writeNumber 28 = .ok (.iload_n 1, 1) := by decide +kernel
theorem dX11_writeNumber_29 : decode cX11_writeNumber 29 = .ok (.iload_n 3, 1) := by decide +kernel
theorem dX11_writeNumber_30 : decode cX11_writeNumber 30 = .ok (.iadd, 1) := by decide +kernel
theorem dX11_writeNumber_31 : decode cX11_writeNumber 31 = .ok (.iload_n 2, 1) := by decide +kernel
theorem dX11_writeNumber_32 : decode cX11_writeNumber 32 = .ok (.bipush 24, 2) := by decide +kernel
theorem dX11_writeNumber_34 : decode cX11_writeNumber 34 = .ok (.bipush 8, 2) := by decide +kernel
theorem dX11_writeNumber_36 : decode cX11_writeNumber 36 = .ok (.iload_n 3, 1) := by decide +kernel
theorem dX11_writeNumber_37 : decode cX11_writeNumber 37 = .ok (.imul, 1) := by decide +kernel
theorem dX11_writeNumber_38 : decode cX11_writeNumber 38 = .ok (.isub, 1) := by decide +kernel
theorem dX11_writeNumber_39 : decode cX11_writeNumber 39 = .ok (.ishr, 1) := by decide +kernel
theorem dX11_writeNumber_40 : decode cX11_writeNumber 40 = .ok (.i2b, 1) := by decide +kernel
theorem dX11_writeNumber_41 : decode cX11_writeNumber 41 = .ok (.bastore, 1) := by decide +kernel
theorem dX11_writeNumber_42 : decode cX11_writeNumber 42 = .ok (.iinc 3 1, 3) := by decide +kernel
theorem dX11_writeNumber_45 : decode cX11_writeNumber 45 = .ok (.goto (-43), 3) := by decide +kernel
theorem dX11_writeNumber_48 : decode cX11_writeNumber 48 = .ok (.return_, 1) := by decide +kernel
theorem wt3_128 : Cond.code yX11_writeNumber cX11_writeNumber 4 none ∈ kG := kt3 128 rfl rfl
theorem wt3_125 : Cond.methodLink RX11 194 yX11_writeNumber ∈ kG := kt3 125 rfl rfl
theorem wt3_127 : Cond.instanceMethod yX11_writeNumber ∈ kG := kt3 127 rfl rfl
theorem wp1_6 : Cond.selects RX11 yX11_writeNumber yX11_writeNumber ∈ kG := kp1 6 rfl rfl
theorem kc_380 : kb 380 380 380 := ⟨by decide +kernel, by decide +kernel⟩
set_option maxHeartbeats 4000000 in
set_option maxRecDepth 100000 in
theorem z_writeNumber  (l : Launch) {D : va_G} {K : Nat → ClassId} (r : Nat → Nat) (f : Nat → Int32) (a : Nat → Nat → Int32) (g : xG) (tx tt : va_W) (hT : ∀ c ∈ tt, c ∈ tx) (hI : xI f a) (hG : gOK K g.2 tt) (fr : Int32) (x : Int32) (bfr : kb 0 fr 396)   : kVG l yX11_writeNumber (Cond.code yX11_writeNumber cX11_writeNumber 4 none :: kG) (rmD 1 0 0) D K [.ref (r 0), .int fr, .int x] (xX K r f a g tx) (fun (u : xS) => xI u.1 u.2.1 ∧ gOK K u.2.2.2 tt ∧ xEk ([], [93], []) f a g u.1 u.2.1 u.2.2 ∧ u.2.1 93 = mCp (tB x) (a 93) 0 fr.toNatClampNeg 4) (fun u => xX K r u.1 u.2.1 u.2.2 tx) 0 0 := by
  refine kVG.of (cc := cX11_writeNumber) (maxL := 4) (ret := none) (by decide) rfl (Nat.le_of_ble_eq_true rfl) ?_
  intro p e s m below meth c A hx hb hr hml hown hts hlocks hnm hK hP hD hS hA hV ls hl
  have hE : xEk ([], [93], []) f a g f a g := xEk_rf
  have hg : ∀ w ∈ kG, w.before _ s = true := fun w h => hts w (List.mem_cons_of_mem _ h)
  have hown : s.vm.findClass RX11 = some m.cls := hown
  have hl : lv_has ls 4 [(0, .ref (r 0)), (1, .int fr), (2, .int x)] := hl
  refine lv_iconst (v := 0) hx hb dX11_writeNumber_0 (by decide) ?_
  refine lv_istore_n (lv' := [(3, .int 0), (0, .ref (r 0)), (1, .int fr), (2, .int x)]) hx hb dX11_writeNumber_1 rfl hl (by decide) rfl (fun ls hl => ?_)
  have lp3 : ∀ (n4 : Nat) (k : Nat) (B2 : Nat → Nat → Int32) (H : Heap) (locs : List Loc) (ls : Array Slot) (y1 : Int32), ((4 : Int) < (k : Int) + (n4 : Int)) → (xI f B2) → (gOK K g.2 tt) → (xEk ([], [93], []) f a g f B2 g) → (kb 0 y1 4) → (B2 93 = mCp (tB x) (a 93) 0 fr.toNatClampNeg k) → (y1.toInt = (k : Int)) → (k ≤ 4) → va_P D vwCl (xX K r f B2 g tx) H → va_D A (xX K r f B2 g tx) → va_S A s.heap H locs → lv_has ls 4 [(3, .int y1), (0, .ref (r 0)), (1, .int fr), (2, .int x)] → W p l e (rmD 1 0 0) s m ([.ref (r 0), .int fr, .int x] : List Value).toArray below meth c H locs 0 0 (kQv D (tysK K) (fun (u : xS) => xI u.1 u.2.1 ∧ gOK K u.2.2.2 tt ∧ xEk ([], [93], []) f a g u.1 u.2.1 u.2.2 ∧ u.2.1 93 = mCp (tB x) (a 93) 0 fr.toNatClampNeg 4) (fun u => xX K r u.1 u.2.1 u.2.2 tx) A below ([.ref (r 0), .int fr, .int x] : List Value).toArray s 0 0) (F0 m 2 ls []) := by
    intro n4
    induction n4 with
    | zero =>
      intro k B2  H locs ls y1 hmlp3 hI hG hE b5 hvlp3_0 hvlp3_1 hvlp3_2 hP hD hS hl
      exact (by have w1 := hmlp3; have w2 := hvlp3_2; omega : False).elim
    | succ n4 ihlp3 =>
      intro k B2  H locs ls y1 hmlp3 hI hG hE b5 hvlp3_0 hvlp3_1 hvlp3_2 hP hD hS hl
      refine lv_iload_n hx hb dX11_writeNumber_2 rfl (lv_at hl 0 rfl) ?_
      refine lv_iconst (v := 4) hx hb dX11_writeNumber_3 (by decide) ?_
      refine lv_icmp_ge (tgt := 48) hx hb dX11_writeNumber_4 (by decide) (fun c6 => ?_) (fun c6 => ?_)
      · have h7 := (kc_le c6)
        have b8 : kb 4 y1 4 := kr_le2 h7 kc_4 b5
        exact kV_ret hx hb hr hlocks hK hS dX11_writeNumber_48 (f, B2, g) hP hD ⟨hI, hG, hE, (show B2 93 = mCp (tB x) (a 93) 0 fr.toNatClampNeg 4 from by have w1 := (b8).1; have w2 := hvlp3_1; have w3 := hvlp3_2; have hkN : k = 4 := (by omega); have hB := hvlp3_0; rw [hkN] at hB; exact hB)⟩
      · have h9 := (kc_nle c6)
        have b10 : kb 0 y1 3 := kr_lt1 h9 b5 kc_4 (by decide)
        refine lv_iload_n hx hb dX11_writeNumber_7 rfl (lv_at hl 2 rfl) ?_
        refine lv_iload_n hx hb dX11_writeNumber_8 rfl (lv_at hl 0 rfl) ?_
        refine lv_iadd hx hb dX11_writeNumber_9 ?_
        refine lv_topi (fun t11 et11 => ?_)
        have b12 : kb 0 t11 399 := kb_eq et11 (kb_add bfr b10 (by decide) (by decide))
        have qt11 : t11.toInt = fr.toInt + y1.toInt := by rw [et11]; exact kt_add bfr b10 (by decide) (by decide)
        refine lv_if_lt (tgt := 42) hx hb dX11_writeNumber_10 (by decide) (fun c26 => ?_) (fun c26 => ?_)
        · have h27 := (kc_lt c26)
          exact kb_no (kr_lt1 h27 b12 kc_0 (H := (-1)) (by decide)) (by decide)
        · have h28 := (kc_nlt c26)
          refine lv_iload_n hx hb dX11_writeNumber_13 rfl (lv_at hl 2 rfl) ?_
          refine lv_iload_n hx hb dX11_writeNumber_14 rfl (lv_at hl 0 rfl) ?_
          refine lv_iadd hx hb dX11_writeNumber_15 ?_
          refine k_top (z := t11) et11.symm ?_
          refine lv_aload_n hx hb dX11_writeNumber_16 rfl (lv_at hl 1 rfl) ?_
          refine va_get (D := D) (ci := 11) (v := .ref (r 93)) (C := RX11) (T := TX11) (N := 17) hx hb hg inC11 hown hK hP 0 rfl rfl 10 (by decide) (hg _ wt2_196) (fun _ h9 => h9) rfl dX11_writeNumber_17 ?_
          refine va_alen (v := 400) hx hb hK hP 93 1 rfl rfl rfl dX11_writeNumber_20 ?_
          refine lv_icmp_ge (tgt := 42) hx hb dX11_writeNumber_21 (by decide) (fun c39 => ?_) (fun c39 => ?_)
          · have h40 := (kc_le c39)
            exact kb_no (kr_le1 h40 kc_400 b12) (by decide)
          · have h41 := (kc_nle c39)
            refine lv_aload_n hx hb dX11_writeNumber_24 rfl (lv_at hl 1 rfl) ?_
            refine va_get (D := D) (ci := 11) (v := .ref (r 93)) (C := RX11) (T := TX11) (N := 17) hx hb hg inC11 hown hK hP 0 rfl rfl 10 (by decide) (hg _ wt2_196) (fun _ h9 => h9) rfl dX11_writeNumber_25 ?_
            refine lv_iload_n hx hb dX11_writeNumber_28 rfl (lv_at hl 2 rfl) ?_
            refine lv_iload_n hx hb dX11_writeNumber_29 rfl (lv_at hl 0 rfl) ?_
            refine lv_iadd hx hb dX11_writeNumber_30 ?_
            refine k_top (z := t11) et11.symm ?_
            refine lv_iload_n hx hb dX11_writeNumber_31 rfl (lv_at hl 3 rfl) ?_
            refine lv_bipush (v := 24) hx hb dX11_writeNumber_32 (by decide) ?_
            refine lv_bipush (v := 8) hx hb dX11_writeNumber_34 (by decide) ?_
            refine lv_iload_n hx hb dX11_writeNumber_36 rfl (lv_at hl 0 rfl) ?_
            refine lv_imul hx hb dX11_writeNumber_37 ?_
            refine lv_topi (fun t42 et42 => ?_)
            have b43 : kb 0 t42 24 := kb_eq et42 (kb_mul kc_8 b10 (by decide) (by decide) (by decide))
            have qt42 : t42.toInt = 8 * y1.toInt := by rw [et42]; exact kt_cmul kc_8 b10 (by decide) (by decide) (by decide)
            refine lv_isub hx hb dX11_writeNumber_38 ?_
            refine lv_topi (fun t44 et44 => ?_)
            have b45 : kb 0 t44 24 := kb_eq et44 (kb_sub kc_24 b43 (by decide) (by decide))
            have qt44 : t44.toInt = 24 - t42.toInt := by rw [et44]; exact kt_csub kc_24 b43 (by decide) (by decide)
            refine lv_ishr hx hb dX11_writeNumber_39 ?_
            refine lv_topi (fun t46 et46 => ?_)
            refine lv_i2b hx hb dX11_writeNumber_40 rfl ?_
            refine lv_topi (fun t47 et47 => ?_)
            have b48 : kb (-128) t47 127 := kb_eq et47 (kb_i2b _)
            refine va_bast hx hb hK hP hD hS 93 1 rfl rfl (kb_in b12 (by decide) (by decide)) dX11_writeNumber_41 (fun H locs hP hD hS => ?_)
            have hP : va_P D vwCl (xX K r f (va_up B2 93 (upd (B2 93) t11.toNatClampNeg (vp_nar .byte t47))) g tx) H := hP
            have hD : va_D A (xX K r f (va_up B2 93 (upd (B2 93) t11.toNatClampNeg (vp_nar .byte t47))) g tx) := hD
            refine k_gen (P := fun z => va_P D vwCl (xX K r f z g tx) H ∧ va_D A (xX K r f z g tx) ∧ (xI f z) ∧ (gOK K g.2 tt) ∧ (xEk ([], [93], []) f a g f z g)) (va_up B2 93 (upd (B2 93) t11.toNatClampNeg (vp_nar .byte t47))) ⟨hP, hD, (xI_a hI (by decide)), hG, (xEk_a hE rfl)⟩ (fun a_49 ea_49 hq => ?_)
            obtain ⟨hP, hD, hI, hG, hE⟩ := hq
            obtain ⟨t50, et50⟩ : ∃ z : Int32, z = y1 + Int32.ofInt 1 := ⟨_, rfl⟩
            have qt50 : t50.toInt = y1.toInt + 1 := by rw [et50]; exact km_inc b10 (by decide) (by decide)
            have b51 : kb 1 t50 4 := kb_inc (k := 1) qt50 b10
            refine lv_iinc (v := t50) (lv' := [(3, .int t50), (0, .ref (r 0)), (1, .int fr), (2, .int x)]) hx hb dX11_writeNumber_42 hl (k := 0) rfl et50.symm (by decide) rfl (fun ls hl => ?_)
            refine lv_goto (tgt := 2) hx hb dX11_writeNumber_45 (by decide) ?_
            exact ihlp3 (k + 1) a_49 _ _ _ t50 (by omega) hI hG hE (kb_w b51 (by decide) (by decide)) (mCp_in hvlp3_0 ea_49 (by have w1 := hvlp3_1; have w0 := bfr.1; unfold Int32.toNatClampNeg; omega) (by have w1 := hvlp3_1; have w4 := (b10).2; rw [Nat.zero_add]; exact tB_at (s := t44) (by omega) (by omega) (by rw [et47, et46]))) (by omega) (by have w1 := (b10).2; omega) hP hD hS (lv_sub hl [0, 1, 2, 3] rfl)
  exact lp3 (5) 0 a _ _ _ 0 (by omega) hI hG hE (kb_w kc_0 (by decide) (by decide)) ((by exact mCp_0.symm)) (by decide +kernel) (Nat.zero_le _) hP hD hS (lv_sub hl [0, 1, 2, 3] rfl)
set_option maxHeartbeats 4000000 in
set_option maxRecDepth 100000 in
theorem z_feed  (l : Launch) {D : va_G} {K : Nat → ClassId} (r : Nat → Nat) (f : Nat → Int32) (a : Nat → Nat → Int32) (g : xG) (tx tt : va_W) (hT : ∀ c ∈ tt, c ∈ tx) (hI : xI f a) (hG : gOK K g.2 tt) (x1 : Int32) (x2 : Int32) (x3 : Int32) (x4 : Int32) (x5 : Int32)    : kIG l yX11_feed (Cond.code yX11_feed cX11_feed 6 (some .int) :: kG) (rmD 2 0 0) D K [.ref (r 0), .int x1, .int x2, .int x3, .int x4, .int x5] (xX K r f a g tx) (fun v (u : xS) => kb (-2147483648) v 2147483647 ∧ xI u.1 u.2.1 ∧ gOK K u.2.2.2 tt ∧ xEk ([12], [93], []) f a g u.1 u.2.1 u.2.2 ∧ v = mFeedV (f 12) ∧ u.1 12 = mFeedT (f 12) ∧ u.2.1 93 = mFeedA (f 12) x1 x2 x3 x4 x5 (a 93)) (fun u => xX K r u.1 u.2.1 u.2.2 tx) 0 0 := by
  refine kIE.of (cc := cX11_feed) (maxL := 6) (ret := (some .int)) (by decide) rfl (Nat.le_of_ble_eq_true rfl) ?_
  intro p e s m below meth c A hx hb hr hml hown hts hlocks hnm hK hP hD hS hA hV ls hl
  have hE : xEk ([12], [93], []) f a g f a g := xEk_rf
  have hg : ∀ w ∈ kG, w.before _ s = true := fun w h => hts w (List.mem_cons_of_mem _ h)
  have hown : s.vm.findClass RX11 = some m.cls := hown
  have hl : lv_has ls 6 [(0, .ref (r 0)), (1, .int x1), (2, .int x2), (3, .int x3), (4, .int x4), (5, .int x5)] := hl
  obtain ⟨c12, ec12⟩ : ∃ z : Int32, z = f 12 := ⟨_, rfl⟩
  have b1 : kb 0 c12 400 := kb_eq ec12 (fI_at hI.1 12 (by decide) (by decide))
  refine lv_aload_n hx hb dX11_feed_0 rfl (lv_at hl 0 rfl) ?_
  refine va_get (D := D) (ci := 11) (v := .int (f 12)) (C := RX11) (T := TX11) (N := 17) hx hb hg inC11 hown hK hP 0 rfl rfl 12 (by decide) (hg _ wt2_198) (fun _ h9 => h9) rfl dX11_feed_1 ?_
  refine k_top (z := c12) ec12.symm ?_
  refine lv_if_lt (tgt := 17) hx hb dX11_feed_4 (by decide) (fun c2 => ?_) (fun c2 => ?_)
  · have h3 := (kc_lt c2)
    exact kb_no (kr_lt1 h3 b1 kc_0 (H := (-1)) (by decide)) (by decide)
  · have h4 := (kc_nlt c2)
    refine lv_aload_n hx hb dX11_feed_7 rfl (lv_at hl 0 rfl) ?_
    refine va_get (D := D) (ci := 11) (v := .int (f 12)) (C := RX11) (T := TX11) (N := 17) hx hb hg inC11 hown hK hP 0 rfl rfl 12 (by decide) (hg _ wt2_198) (fun _ h9 => h9) rfl dX11_feed_8 ?_
    refine k_top (z := c12) ec12.symm ?_
    refine lv_sipush (v := 380) hx hb dX11_feed_11 (by decide) ?_
    refine lv_icmp_le (tgt := 19) hx hb dX11_feed_14 (by decide) (fun c5 => ?_) (fun c5 => ?_)
    · have h6 := (kc_le c5)
      have b7 : kb 0 c12 380 := kr_le1 h6 b1 kc_380
      refine lv_aload_n hx hb dX11_feed_19 rfl (lv_at hl 0 rfl) ?_
      refine lv_aload_n hx hb dX11_feed_20 rfl (lv_at hl 0 rfl) ?_
      refine va_get (D := D) (ci := 11) (v := .int (f 12)) (C := RX11) (T := TX11) (N := 17) hx hb hg inC11 hown hK hP 0 rfl rfl 12 (by decide) (hg _ wt2_198) (fun _ h9 => h9) rfl dX11_feed_21 ?_
      refine k_top (z := c12) ec12.symm ?_
      refine lv_iload_n hx hb dX11_feed_24 rfl (lv_at hl 1 rfl) ?_
      refine kVG.callW (As := [.int c12, .int x1]) (rest := []) ⟨hx, hb, hml, hown, hg⟩ (z_writeNumber l r f a g tx tt hT hI hG c12 x1 (kb_w b7 (by decide) (by decide)) ) (cwV 2 hg (kgV wt3_125 wt3_127 wp1_6 wt1_1 wt3_128) rfl rfl rfl (by decide +kernel) ⟨by decide, by decide⟩) hV hK hP hD hS hA (0) 11 rfl rfl rfl hl.1 rfl (Nat.le_of_ble_eq_true rfl) dX11_feed_25 ⟨Nat.le_refl _, Nat.le_refl _⟩ (fun u10 H locs hw8 hP hD hS => ?_)
      obtain ⟨f11, a12, g13⟩ := u10
      have hP : va_P D vwCl (xX K r f11 a12 g13 tx) H := hP
      have hD : va_D A (xX K r f11 a12 g13 tx) := hD
      have hI : xI f11 a12 := hw8.1
      have hG : gOK K g13.2 tt := hw8.2.1
      have eE14 : xEk ([], [93], []) f a g f11 a12 g13 := hw8.2.2.1
      have hE : xEk ([12], [93], []) f a g f11 a12 g13 := xEk_tr hE (xEk_w (by decide +kernel) eE14)
      refine lv_aload_n hx hb dX11_feed_28 rfl (lv_at hl 0 rfl) ?_
      refine lv_aload_n hx hb dX11_feed_29 rfl (lv_at hl 0 rfl) ?_
      refine va_get (D := D) (ci := 11) (v := .int (f11 12)) (C := RX11) (T := TX11) (N := 17) hx hb hg inC11 hown hK hP 0 rfl rfl 12 (by decide) (hg _ wt2_198) (fun _ h9 => h9) rfl dX11_feed_30 ?_
      refine k_top (z := c12) ((eE14.1 12 rfl).trans ec12.symm) ?_
      refine lv_iconst (v := 4) hx hb dX11_feed_33 (by decide) ?_
      refine lv_iadd hx hb dX11_feed_34 ?_
      refine lv_topi (fun t15 et15 => ?_)
      have b16 : kb 4 t15 384 := kb_eq et15 (kb_add b7 kc_4 (by decide) (by decide))
      have qt15 : t15.toInt = c12.toInt + 4 := by rw [et15]; exact kt_addc b7 kc_4 (by decide) (by decide)
      refine lv_iload_n hx hb dX11_feed_35 rfl (lv_at hl 2 rfl) ?_
      refine kVG.callW (As := [.int t15, .int x2]) (rest := []) ⟨hx, hb, hml, hown, hg⟩ (z_writeNumber l r f11 a12 g13 tx tt hT hI hG t15 x2 (kb_w b16 (by decide) (by decide)) ) (cwV 2 hg (kgV wt3_125 wt3_127 wp1_6 wt1_1 wt3_128) rfl rfl rfl (by decide +kernel) ⟨by decide, by decide⟩) hV hK hP hD hS hA (0) 11 rfl rfl rfl hl.1 rfl (Nat.le_of_ble_eq_true rfl) dX11_feed_36 ⟨Nat.le_refl _, Nat.le_refl _⟩ (fun u19 H locs hw17 hP hD hS => ?_)
      obtain ⟨f20, a21, g22⟩ := u19
      have hP : va_P D vwCl (xX K r f20 a21 g22 tx) H := hP
      have hD : va_D A (xX K r f20 a21 g22 tx) := hD
      have hI : xI f20 a21 := hw17.1
      have hG : gOK K g22.2 tt := hw17.2.1
      have eE23 : xEk ([], [93], []) f11 a12 g13 f20 a21 g22 := hw17.2.2.1
      have hE : xEk ([12], [93], []) f a g f20 a21 g22 := xEk_tr hE (xEk_w (by decide +kernel) eE23)
      refine lv_aload_n hx hb dX11_feed_39 rfl (lv_at hl 0 rfl) ?_
      refine lv_aload_n hx hb dX11_feed_40 rfl (lv_at hl 0 rfl) ?_
      refine va_get (D := D) (ci := 11) (v := .int (f20 12)) (C := RX11) (T := TX11) (N := 17) hx hb hg inC11 hown hK hP 0 rfl rfl 12 (by decide) (hg _ wt2_198) (fun _ h9 => h9) rfl dX11_feed_41 ?_
      refine k_top (z := c12) ((eE23.1 12 rfl).trans ((eE14.1 12 rfl).trans ec12.symm)) ?_
      refine lv_bipush (v := 8) hx hb dX11_feed_44 (by decide) ?_
      refine lv_iadd hx hb dX11_feed_46 ?_
      refine lv_topi (fun t24 et24 => ?_)
      have b25 : kb 8 t24 388 := kb_eq et24 (kb_add b7 kc_8 (by decide) (by decide))
      have qt24 : t24.toInt = c12.toInt + 8 := by rw [et24]; exact kt_addc b7 kc_8 (by decide) (by decide)
      refine lv_iload_n hx hb dX11_feed_47 rfl (lv_at hl 3 rfl) ?_
      refine kVG.callW (As := [.int t24, .int x3]) (rest := []) ⟨hx, hb, hml, hown, hg⟩ (z_writeNumber l r f20 a21 g22 tx tt hT hI hG t24 x3 (kb_w b25 (by decide) (by decide)) ) (cwV 2 hg (kgV wt3_125 wt3_127 wp1_6 wt1_1 wt3_128) rfl rfl rfl (by decide +kernel) ⟨by decide, by decide⟩) hV hK hP hD hS hA (0) 11 rfl rfl rfl hl.1 rfl (Nat.le_of_ble_eq_true rfl) dX11_feed_48 ⟨Nat.le_refl _, Nat.le_refl _⟩ (fun u28 H locs hw26 hP hD hS => ?_)
      obtain ⟨f29, a30, g31⟩ := u28
      have hP : va_P D vwCl (xX K r f29 a30 g31 tx) H := hP
      have hD : va_D A (xX K r f29 a30 g31 tx) := hD
      have hI : xI f29 a30 := hw26.1
      have hG : gOK K g31.2 tt := hw26.2.1
      have eE32 : xEk ([], [93], []) f20 a21 g22 f29 a30 g31 := hw26.2.2.1
      have hE : xEk ([12], [93], []) f a g f29 a30 g31 := xEk_tr hE (xEk_w (by decide +kernel) eE32)
      refine lv_aload_n hx hb dX11_feed_51 rfl (lv_at hl 0 rfl) ?_
      refine lv_aload_n hx hb dX11_feed_52 rfl (lv_at hl 0 rfl) ?_
      refine va_get (D := D) (ci := 11) (v := .int (f29 12)) (C := RX11) (T := TX11) (N := 17) hx hb hg inC11 hown hK hP 0 rfl rfl 12 (by decide) (hg _ wt2_198) (fun _ h9 => h9) rfl dX11_feed_53 ?_
      refine k_top (z := c12) ((eE32.1 12 rfl).trans ((eE23.1 12 rfl).trans ((eE14.1 12 rfl).trans ec12.symm))) ?_
      refine lv_bipush (v := 12) hx hb dX11_feed_56 (by decide) ?_
      refine lv_iadd hx hb dX11_feed_58 ?_
      refine lv_topi (fun t33 et33 => ?_)
      have b34 : kb 12 t33 392 := kb_eq et33 (kb_add b7 kc_12 (by decide) (by decide))
      have qt33 : t33.toInt = c12.toInt + 12 := by rw [et33]; exact kt_addc b7 kc_12 (by decide) (by decide)
      refine lv_iload hx hb dX11_feed_59 (lv_at hl 4 rfl) ?_
      refine kVG.callW (As := [.int t33, .int x4]) (rest := []) ⟨hx, hb, hml, hown, hg⟩ (z_writeNumber l r f29 a30 g31 tx tt hT hI hG t33 x4 (kb_w b34 (by decide) (by decide)) ) (cwV 2 hg (kgV wt3_125 wt3_127 wp1_6 wt1_1 wt3_128) rfl rfl rfl (by decide +kernel) ⟨by decide, by decide⟩) hV hK hP hD hS hA (0) 11 rfl rfl rfl hl.1 rfl (Nat.le_of_ble_eq_true rfl) dX11_feed_61 ⟨Nat.le_refl _, Nat.le_refl _⟩ (fun u37 H locs hw35 hP hD hS => ?_)
      obtain ⟨f38, a39, g40⟩ := u37
      have hP : va_P D vwCl (xX K r f38 a39 g40 tx) H := hP
      have hD : va_D A (xX K r f38 a39 g40 tx) := hD
      have hI : xI f38 a39 := hw35.1
      have hG : gOK K g40.2 tt := hw35.2.1
      have eE41 : xEk ([], [93], []) f29 a30 g31 f38 a39 g40 := hw35.2.2.1
      have hE : xEk ([12], [93], []) f a g f38 a39 g40 := xEk_tr hE (xEk_w (by decide +kernel) eE41)
      refine lv_aload_n hx hb dX11_feed_64 rfl (lv_at hl 0 rfl) ?_
      refine lv_aload_n hx hb dX11_feed_65 rfl (lv_at hl 0 rfl) ?_
      refine va_get (D := D) (ci := 11) (v := .int (f38 12)) (C := RX11) (T := TX11) (N := 17) hx hb hg inC11 hown hK hP 0 rfl rfl 12 (by decide) (hg _ wt2_198) (fun _ h9 => h9) rfl dX11_feed_66 ?_
      refine k_top (z := c12) ((eE41.1 12 rfl).trans ((eE32.1 12 rfl).trans ((eE23.1 12 rfl).trans ((eE14.1 12 rfl).trans ec12.symm)))) ?_
      refine lv_bipush (v := 16) hx hb dX11_feed_69 (by decide) ?_
      refine lv_iadd hx hb dX11_feed_71 ?_
      refine lv_topi (fun t42 et42 => ?_)
      have b43 : kb 16 t42 396 := kb_eq et42 (kb_add b7 kc_16 (by decide) (by decide))
      have qt42 : t42.toInt = c12.toInt + 16 := by rw [et42]; exact kt_addc b7 kc_16 (by decide) (by decide)
      refine lv_iload hx hb dX11_feed_72 (lv_at hl 5 rfl) ?_
      refine kVG.callW (As := [.int t42, .int x5]) (rest := []) ⟨hx, hb, hml, hown, hg⟩ (z_writeNumber l r f38 a39 g40 tx tt hT hI hG t42 x5 (kb_w b43 (by decide) (by decide)) ) (cwV 2 hg (kgV wt3_125 wt3_127 wp1_6 wt1_1 wt3_128) rfl rfl rfl (by decide +kernel) ⟨by decide, by decide⟩) hV hK hP hD hS hA (0) 11 rfl rfl rfl hl.1 rfl (Nat.le_of_ble_eq_true rfl) dX11_feed_74 ⟨Nat.le_refl _, Nat.le_refl _⟩ (fun u46 H locs hw44 hP hD hS => ?_)
      obtain ⟨f47, a48, g49⟩ := u46
      have hP : va_P D vwCl (xX K r f47 a48 g49 tx) H := hP
      have hD : va_D A (xX K r f47 a48 g49 tx) := hD
      have hI : xI f47 a48 := hw44.1
      have hG : gOK K g49.2 tt := hw44.2.1
      have eE50 : xEk ([], [93], []) f38 a39 g40 f47 a48 g49 := hw44.2.2.1
      have hE : xEk ([12], [93], []) f a g f47 a48 g49 := xEk_tr hE (xEk_w (by decide +kernel) eE50)
      refine lv_aload_n hx hb dX11_feed_77 rfl (lv_at hl 0 rfl) ?_
      refine lv_dup hx hb dX11_feed_78 rfl ?_
      refine va_get (D := D) (ci := 11) (v := .int (f47 12)) (C := RX11) (T := TX11) (N := 17) hx hb hg inC11 hown hK hP 0 rfl rfl 12 (by decide) (hg _ wt2_198) (fun _ h9 => h9) rfl dX11_feed_79 ?_
      refine k_top (z := c12) ((eE50.1 12 rfl).trans ((eE41.1 12 rfl).trans ((eE32.1 12 rfl).trans ((eE23.1 12 rfl).trans ((eE14.1 12 rfl).trans ec12.symm))))) ?_
      refine lv_bipush (v := 20) hx hb dX11_feed_82 (by decide) ?_
      refine lv_iadd hx hb dX11_feed_84 ?_
      refine lv_topi (fun t51 et51 => ?_)
      have b52 : kb 20 t51 400 := kb_eq et51 (kb_add b7 kc_20 (by decide) (by decide))
      have qt51 : t51.toInt = c12.toInt + 20 := by rw [et51]; exact kt_addc b7 kc_20 (by decide) (by decide)
      refine va_put (D := D) (ci := 11) (v := .int t51) (ty := .int) (C := RX11) (T := TX11) (N := 17) hx hb hg inC11 tyX11 tyX11_ok nmX11 hown hK hP hD hS 0 rfl rfl 12 (by decide) (hg _ wt2_198) (fun _ h9 => h9) rfl (by decide +kernel) rfl rfl (Nat.le_of_ble_eq_true rfl) dX11_feed_85 (fun H locs hP hD hS => ?_)
      have hP : va_P D vwCl (xX K r (upd f47 12 t51) a48 g49 tx) H := hP
      have hD : va_D A (xX K r (upd f47 12 t51) a48 g49 tx) := hD
      refine k_gen (P := fun z => va_P D vwCl (xX K r z a48 g49 tx) H ∧ va_D A (xX K r z a48 g49 tx) ∧ (xI z a48) ∧ (gOK K g49.2 tt) ∧ (xEk ([12], [93], []) f a g z a48 g49)) (upd f47 12 t51) ⟨hP, hD, (xI_f hI (fI_st hI.1 12 b52 (by decide) (by decide))), hG, (xEk_f hE rfl)⟩ (fun f_53 ef_53 hq => ?_)
      obtain ⟨hP, hD, hI, hG, hE⟩ := hq
      refine lv_aload_n hx hb dX11_feed_88 rfl (lv_at hl 0 rfl) ?_
      refine va_get (D := D) (ci := 11) (v := .int (f_53 12)) (C := RX11) (T := TX11) (N := 17) hx hb hg inC11 hown hK hP 0 rfl rfl 12 (by decide) (hg _ wt2_198) (fun _ h9 => h9) rfl dX11_feed_89 ?_
      refine k_top (z := t51) (show f_53 12 = t51 from by rw [← ef_53]; rfl) ?_
      exact kI_ret (v := t51) hx hb hr hlocks rfl hK hS dX11_feed_92 (f_53, a48, g49) hP hD ⟨(kb_w b52 (by decide) (by decide)), hI, hG, hE, (by unfold mFeedV; rw [if_neg (by rw [← ec12]; have w1 := (b7).2; omega), ← ec12]; exact et51), (by unfold mFeedT; rw [if_neg (by rw [← ec12]; have w1 := (b7).2; omega), ← ec12, ← et51]; exact (show f_53 12 = t51 from by rw [← ef_53]; rfl)), (show a48 93 = mFeedA (f 12) x1 x2 x3 x4 x5 (a 93) from by unfold mFeedA; rw [if_neg (by rw [← ec12]; have w1 := (b7).2; omega), show a48 93 = mCp (tB x5) (a39 93) 0 t42.toNatClampNeg 4 from hw44.2.2.2, show a39 93 = mCp (tB x4) (a30 93) 0 t33.toNatClampNeg 4 from hw35.2.2.2, show a30 93 = mCp (tB x3) (a21 93) 0 t24.toNatClampNeg 4 from hw26.2.2.2, show a21 93 = mCp (tB x2) (a12 93) 0 t15.toNatClampNeg 4 from hw17.2.2.2, show a12 93 = mCp (tB x1) (a 93) 0 c12.toNatClampNeg 4 from hw8.2.2.2, show t15.toNatClampNeg = c12.toNatClampNeg + 4 from (by have w1 := (b7).1; unfold Int32.toNatClampNeg; omega), show t24.toNatClampNeg = c12.toNatClampNeg + 8 from (by have w1 := (b7).1; unfold Int32.toNatClampNeg; omega), show t33.toNatClampNeg = c12.toNatClampNeg + 12 from (by have w1 := (b7).1; unfold Int32.toNatClampNeg; omega), show t42.toNatClampNeg = c12.toNatClampNeg + 16 from (by have w1 := (b7).1; unfold Int32.toNatClampNeg; omega), ← ec12]; exact mCp5)⟩
    · have h54 := (kc_nle c5)
      have b55 : kb 381 c12 400 := kr_lt2 h54 kc_380 b1 (by decide)
      refine lv_iconst (v := (-1)) hx hb dX11_feed_17 (by decide) ?_
      exact kI_ret (v := (-1)) hx hb hr hlocks rfl hK hS dX11_feed_18 (f, a, g) hP hD ⟨(kb_w kc_m1 (by decide) (by decide)), hI, hG, hE, (by unfold mFeedV; rw [if_pos (by rw [← ec12]; have w1 := (b55).1; omega)]), (by unfold mFeedT; rw [if_pos (by rw [← ec12]; have w1 := (b55).1; omega)]), (show a 93 = mFeedA (f 12) x1 x2 x3 x4 x5 (a 93) from by unfold mFeedA; rw [if_pos (by rw [← ec12]; have w1 := (b55).1; omega)])⟩
