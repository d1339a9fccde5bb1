/-! what a law tells -/
theorem kn7_u1 {u w : Nat → Int32} {k : Nat} {v : Int32} (e : u = w) (h : u k = v) : w k = v := e ▸ h
theorem kn7_u2 {u w : Nat → Nat → Int32} {i k : Nat} {v : Int32} (e : u = w) (h : u i k = v) : w i k = v := e ▸ h
theorem kn7_go {x c A : Int} {n : Nat} (h : x = c + 1) (g : c = A + (n : Int)) : x = A + ((n + 1 : Nat) : Int) := by rw [h, g]; omega
theorem kn7_ml {A c n : Nat} (h : A < c + (n + 1)) : A < c + 1 + n := by omega
theorem kn7_sl {S j : Nat} (h : j = S) : S ≤ j + 1 := by omega
section CT
variable {D : tE} {hd : Int32} {W : Nat → Int} {hi x : Int} {c : Nat}
theorem ct_n (h : ¬ D.2.2.1 c = hd) : clT D hd W hi c = none := by unfold clT; rw [if_neg (fun q => h q.1)]
theorem ct_t (h : ¬ D.2.2.2.2.2.2 c W = some 1) : clT D hd W hi c = none := by unfold clT; rw [if_neg (fun q => h q.2)]
theorem ct_b (h : D.2.2.2.2.1 c W = none) : clT D hd W hi c = none := by
  unfold clT
  split
  · rw [h]; rfl
  · rfl
theorem ct_y (h1 : D.2.2.1 c = hd) (h3 : D.2.2.2.2.2.2 c W = some 1) (hx : D.2.2.2.2.1 c W = some x) : clT D hd W hi c = some (max 0 (min hi x)) := by unfold clT; rw [if_pos ⟨h1, h3⟩, hx]; rfl
end CT
/-- the laws that are told, as the reference keeps them -/
def lM (k : Nat → Int32) (DD : Nat → tE) : Prop := ∀ t : Nat, (t : Int) < (k 105).toInt → ∃ T : Nat → Int32, tQ k t T ∧ txE false T (k (107 + t)).toInt.toNat (DD t)
def tlF (DD : Nat → tE) (k : Nat → Int32) (kd : Nat) (b p : Int32) (hi w : Int) : Int := if k 106 = -1 then w else lwV (DD (k 106).toInt.toNat) (kHd kd) (lwW k b p) hi w
theorem mr_s {r : Option Int} {b : Int32} {x : Int} (h : mRs 1 0 r b x) (q : b = 0) : r = some x := by
  rcases h with ⟨_, _, ⟨h1, _⟩ | ⟨_, h2, _⟩⟩ | ⟨n, _⟩
  · exact h1
  · rw [q] at h2; exact absurd h2 (by decide +kernel)
  · exact absurd ⟨rfl, rfl⟩ n
theorem mr_n {r : Option Int} {b : Int32} {x : Int} (h : mRs 1 0 r b x) (q : ¬ b = 0) : r = none := by
  rcases h with ⟨_, _, ⟨_, h1, _⟩ | ⟨h2, _⟩⟩ | ⟨n, _⟩
  · exact absurd h1 q
  · exact h2
  · exact absurd ⟨rfl, rfl⟩ n
theorem mt_1 {r : Option Int} {b v : Int32} (h : mTv 1 0 r b v) (q : b = 0) : r = some v.toInt := by
  rcases h with ⟨_, _, ⟨h1, _⟩ | ⟨_, h2⟩⟩ | ⟨n, _⟩
  · exact h1
  · rw [q] at h2; exact absurd h2 (by decide +kernel)
  · exact absurd ⟨rfl, rfl⟩ n
theorem mt_n {r : Option Int} {b v : Int32} (h : mTv 1 0 r b v) (q : ¬ b = 0) : ¬ r = some 1 := by
  rcases h with ⟨_, _, ⟨_, h1⟩ | ⟨h2, _⟩⟩ | ⟨n, _⟩
  · exact absurd h1 q
  · rw [h2]; intro e; cases e
  · exact absurd ⟨rfl, rfl⟩ n
/-- the test does not hold: it says 0, or it is broken -/
theorem mt_0 {r : Option Int} {b v : Int32} (h : mTv 1 0 r b v) (q : v = 0) : ¬ r = some 1 := by
  rcases h with ⟨_, _, ⟨h1, _⟩ | ⟨h2, _⟩⟩ | ⟨n, _⟩
  · rw [h1, q]; decide +kernel
  · rw [h2]; intro e; cases e
  · exact absurd ⟨rfl, rfl⟩ n
theorem kHd_j {n : Nat} {hd : Int32} (h : kHd n = kHd (hd.toInt.toNat - 1)) (b : kb 1 hd 4) (hn : n < 4 := by decide) : hd.toInt = (n : Int) + 1 := by
  have b1 := b.1
  have b2 := b.2
  have e1 := kHd_i n hn
  have e2 := kHd_i (hd.toInt.toNat - 1) (by omega)
  rw [h] at e1
  omega
theorem kt_l2i {x : Int64} (h1 : -2147483648 ≤ x.toInt) (h2 : x.toInt ≤ 2147483647) : x.toInt32.toInt = x.toInt := by
  rw [Int64.toInt_toInt32, Int.bmod_eq_of_le] <;> omega
set_option maxHeartbeats 4000000 in
set_option maxRecDepth 100000 in
theorem n_isIn (l : Launch) (x : Int32) (y : Int32)   : kN l yX12_isIn (Cond.code yX12_isIn cX12_isIn 2 (some .boolean) :: kG) (rmD 1 0 0) [.int x, .int y] (fun v => kb 0 v 1 ∧ v = (if (x >>> (y &&& 31)) &&& 1 = 1 then 1 else 0)) := by
  refine kN.of (cc := cX12_isIn) (maxL := 2) (ret := (some .boolean)) (by decide) rfl (Nat.le_of_ble_eq_true rfl) ?_
  intro p e s m below meth c hx hb hr hml hown hts hlocks hS ls hl
  have hg : ∀ w ∈ kG, w.before _ s = true := fun w h => hts w (List.mem_cons_of_mem _ h)
  have hown : s.vm.findClass RX12 = some m.cls := hown
  have hl : lv_has ls 2 [(0, .int x), (1, .int y)] := hl
  refine lv_iload_n hx hb dX12_isIn_0 rfl (lv_at hl 0 rfl) ?_
  refine lv_iload_n hx hb dX12_isIn_1 rfl (lv_at hl 1 rfl) ?_
  refine lv_ishr hx hb dX12_isIn_2 ?_
  refine lv_topi (fun t1 et1 => ?_)
  refine lv_iconst (v := 1) hx hb dX12_isIn_3 (by decide) ?_
  refine lv_iand hx hb dX12_isIn_4 ?_
  refine lv_topi (fun t2 et2 => ?_)
  have b3 : kb 0 t2 1 := kb_eq et2 (kb_and 1 (by decide) (by decide))
  refine lv_iconst (v := 1) hx hb dX12_isIn_5 (by decide) ?_
  refine lv_icmp_ne (tgt := 13) hx hb dX12_isIn_6 (by decide) (fun c4 => ?_) (fun c4 => ?_)
  · have b5 : kb 0 t2 0 := kr_neh c4 b3 kc_1 (by decide)
    refine lv_iconst (v := 0) hx hb dX12_isIn_13 (by decide) ?_
    exact kN_ret (v := 0) hx hb hr hlocks (by decide +kernel) hS dX12_isIn_14 (⟨(kb_w kc_0 (by decide) (by decide)), (by rw [← et1, ← et2, if_neg c4])⟩)
  · have b6 : kb 1 t2 1 := kb_eq c4 kc_1
    refine lv_iconst (v := 1) hx hb dX12_isIn_9 (by decide) ?_
    refine lv_goto (tgt := 14) hx hb dX12_isIn_10 (by decide) ?_
    exact kN_ret (v := 1) hx hb hr hlocks (by decide +kernel) hS dX12_isIn_14 (⟨(kb_w kc_1 (by decide) (by decide)), (by rw [← et1, ← et2, if_pos c4])⟩)
set_option maxHeartbeats 4000000 in
set_option maxRecDepth 100000 in
theorem n_hasCraft  (l : Launch) {D : va_G} {K : Nat → ClassId} (o : Nat) (r : Nat → Nat) (f : Nat → Int32) (a : Nat → Nat → Int32) (g : Nat → Int64) (hI : mI f a) (bd : Int32) (pt : Int32) (bbd : kb 0 bd 5) (bpt : kb 0 pt 9)   : kI l yX12_hasCraft (Cond.code yX12_hasCraft cX12_hasCraft 3 (some .boolean) :: kG) (rmD 2 0 0) D (tysK K) [.ref o, .int bd, .int pt] (mW K o r f a g) (fun v (_ : Unit) => kb 0 v 1 ∧ v = (if crB (a 2) bd.toNatClampNeg pt.toNatClampNeg = 1 then 1 else 0)) (fun _ => mW K o r f a g) 0 0 := by
  refine kI.of (cc := cX12_hasCraft) (maxL := 3) (ret := (some .boolean)) (by decide) rfl (Nat.le_of_ble_eq_true rfl) ?_
  intro p e s m below meth c A hx hb hr hml hown hts hlocks hnm hK hP hD hS hA ls hl
  have hg : ∀ w ∈ kG, w.before _ s = true := fun w h => hts w (List.mem_cons_of_mem _ h)
  have hown : s.vm.findClass RX12 = some m.cls := hown
  have hl : lv_has ls 3 [(0, .ref o), (1, .int bd), (2, .int pt)] := hl
  refine lv_aload_n hx hb dX12_hasCraft_0 rfl (lv_at hl 0 rfl) ?_
  refine va_get (D := D) (ci := 12) (v := .ref (r 2)) (C := RX12) (T := TX12) (N := 48) hx hb hg inC12 hown hK hP 0 rfl rfl 2 (by decide) (hg _ wt5_162) (fun _ h9 => h9) rfl dX12_hasCraft_1 ?_
  refine lv_bipush (v := 63) hx hb dX12_hasCraft_4 (by decide) ?_
  refine lv_iload_n hx hb dX12_hasCraft_6 rfl (lv_at hl 1 rfl) ?_
  refine lv_iadd hx hb dX12_hasCraft_7 ?_
  refine lv_topi (fun t1 et1 => ?_)
  have b2 : kb 63 t1 68 := kb_eq et1 (kb_add kc_63 bbd (by decide) (by decide))
  have qt1 : t1.toInt = 63 + bd.toInt := by rw [et1]; exact kt_cadd kc_63 bbd (by decide) (by decide)
  refine va_iald hx hb hK hP 2 0 rfl rfl (kb_in b2 (by decide) (by decide)) dX12_hasCraft_8 ?_
  refine lv_topi (fun t3 et3 => ?_)
  refine lv_aload_n hx hb dX12_hasCraft_9 rfl (lv_at hl 0 rfl) ?_
  refine va_get (D := D) (ci := 12) (v := .ref (r 2)) (C := RX12) (T := TX12) (N := 48) hx hb hg inC12 hown hK hP 0 rfl rfl 2 (by decide) (hg _ wt5_162) (fun _ h9 => h9) rfl dX12_hasCraft_10 ?_
  refine lv_bipush (v := 43) hx hb dX12_hasCraft_13 (by decide) ?_
  refine lv_iload_n hx hb dX12_hasCraft_15 rfl (lv_at hl 2 rfl) ?_
  refine lv_iadd hx hb dX12_hasCraft_16 ?_
  refine lv_topi (fun t4 et4 => ?_)
  have b5 : kb 43 t4 52 := kb_eq et4 (kb_add kc_43 bpt (by decide) (by decide))
  have qt4 : t4.toInt = 43 + pt.toInt := by rw [et4]; exact kt_cadd kc_43 bpt (by decide) (by decide)
  refine va_iald hx hb hK hP 2 0 rfl rfl (kb_in b5 (by decide) (by decide)) dX12_hasCraft_17 ?_
  refine lv_topi (fun t6 et6 => ?_)
  refine kN.callS (As := [.int t3, .int t6]) (rest := []) ⟨hx, hb, hml, hown, hg⟩ (n_isIn l t3 t6 ) (va_cwS 2 hg (kgS wt6_124 wt6_125 wt1_14 wt6_126) rfl rfl rfl (by decide +kernel) ⟨by decide, by decide⟩) hP hS rfl hl.1 rfl (Nat.le_of_ble_eq_true rfl) dX12_hasCraft_18 ⟨Nat.le_refl _, Nat.le_refl _⟩ (fun v8 H locs hw7 hP hS => ?_)
  exact kI_ret (v := v8) hx hb hr hlocks (kb_bo hw7.1) hK hS dX12_hasCraft_21 () hP hD ⟨hw7.1, (by rw [hw7.2, (show t3 = a 2 (63 + bd.toNatClampNeg) from et3.trans (congrArg (a 2) (show t1.toNatClampNeg = _ from by have w1 := qt1; have w2 := (bbd).1; unfold Int32.toNatClampNeg; omega))), (show t6 = a 2 (43 + pt.toNatClampNeg) from et6.trans (congrArg (a 2) (show t4.toNatClampNeg = _ from by have w1 := qt4; have w2 := (bpt).1; unfold Int32.toNatClampNeg; omega)))]; rfl)⟩
set_option maxHeartbeats 4000000 in
set_option maxRecDepth 100000 in
theorem n_others  (l : Launch) {D : va_G} {K : Nat → ClassId} (o : Nat) (r : Nat → Nat) (f : Nat → Int32) (a : Nat → Nat → Int32) (g : Nat → Int64) (hI : mI f a) (bd : Int32) (pt : Int32) (bbd : kb (-1) bd 5)   : kI l yX12_others (Cond.code yX12_others cX12_others 5 (some .int) :: kG) (rmD 1 0 0) D (tysK K) [.ref o, .int bd, .int pt] (mW K o r f a g) (fun v (_ : Unit) => kb 0 v 6 ∧ v.toInt = (oth (a 2) bd pt (a 2 103).toInt.toNat : Int)) (fun _ => mW K o r f a g) 0 0 := by
  refine kI.of (cc := cX12_others) (maxL := 5) (ret := (some .int)) (by decide) rfl (Nat.le_of_ble_eq_true rfl) ?_
  intro p e s m below meth c A hx hb hr hml hown hts hlocks hnm hK hP hD hS hA ls hl
  have hg : ∀ w ∈ kG, w.before _ s = true := fun w h => hts w (List.mem_cons_of_mem _ h)
  have hown : s.vm.findClass RX12 = some m.cls := hown
  have hl : lv_has ls 5 [(0, .ref o), (1, .int bd), (2, .int pt)] := hl
  refine lv_iconst (v := 0) hx hb dX12_others_0 (by decide) ?_
  refine lv_istore_n (lv' := [(3, .int 0), (0, .ref o), (1, .int bd), (2, .int pt)]) hx hb dX12_others_1 rfl hl (by decide) rfl (fun ls hl => ?_)
  refine lv_iconst (v := 0) hx hb dX12_others_2 (by decide) ?_
  refine lv_istore (lv' := [(4, .int 0), (3, .int 0), (0, .ref o), (1, .int bd), (2, .int pt)]) hx hb dX12_others_3 hl (by decide) rfl (fun ls hl => ?_)
  have lp3 : ∀ (n4 : Nat) (nn : Nat) (H : Heap) (locs : List Loc) (ls : Array Slot) (y1 : Int32) (y2 : Int32), (6 < y1.toInt + (n4 : Int)) → (kb 0 y1 6) → (kb 0 y2 6) → (y1.toInt = (nn : Int)) → (y2.toInt = (oth (a 2) bd pt nn : Int)) → ((nn : Int) ≤ (a 2 103).toInt) → va_P D vwCl (mW K o r f a g) H → va_D A (mW K o r f a g) → va_S A s.heap H locs → lv_has ls 5 [(4, .int y1), (3, .int y2), (0, .ref o), (1, .int bd), (2, .int pt)] → W p l e (rmD 1 0 0) s m ([.ref o, .int bd, .int pt] : List Value).toArray below meth c H locs 0 0 (kQi D (tysK K) (fun v (_ : Unit) => kb 0 v 6 ∧ v.toInt = (oth (a 2) bd pt (a 2 103).toInt.toNat : Int)) (fun _ => mW K o r f a g) A below ([.ref o, .int bd, .int pt] : List Value).toArray s 0 0) (F0 m 5 ls []) := by
    intro n4
    induction n4 with
    | zero =>
      intro nn  H locs ls y1 y2 hmlp3 b5 b6 hvlp3_0 hvlp3_1 hvlp3_2 hP hD hS hl
      exact (by have h1 := b5.2; have h2 := hmlp3; omega : False).elim
    | succ n4 ihlp3 =>
      intro nn  H locs ls y1 y2 hmlp3 b5 b6 hvlp3_0 hvlp3_1 hvlp3_2 hP hD hS hl
      have hnn : y1 = nI nn := nI_q hvlp3_0
      refine lv_iload hx hb dX12_others_5 (lv_at hl 0 rfl) ?_
      refine lv_aload_n hx hb dX12_others_7 rfl (lv_at hl 2 rfl) ?_
      refine va_get (D := D) (ci := 12) (v := .ref (r 2)) (C := RX12) (T := TX12) (N := 48) hx hb hg inC12 hown hK hP 0 rfl rfl 2 (by decide) (hg _ wt5_162) (fun _ h9 => h9) rfl dX12_others_8 ?_
      refine lv_bipush (v := 103) hx hb dX12_others_11 (by decide) ?_
      refine va_iald hx hb hK hP 2 0 rfl rfl (kb_in kc_103 (by decide) (by decide)) dX12_others_13 ?_
      refine lv_topi (fun t7 et7 => ?_)
      rw [cl_103] at et7
      have b8 : kb 0 t7 6 := kb_eq et7 (aI_at hI.2.1 2 103 (by decide) (by decide))
      refine lv_icmp_ge (tgt := 51) hx hb dX12_others_14 (by decide) (fun c9 => ?_) (fun c9 => ?_)
      · have h10 := (kc_le c9)
        refine lv_iload_n hx hb dX12_others_51 rfl (lv_at hl 1 rfl) ?_
        exact kI_ret (v := y2) hx hb hr hlocks rfl hK hS dX12_others_52 () hP hD ⟨b6, (by have w1 := hvlp3_0; have w2 := kc_le c9; have w3 := congrArg Int32.toInt et7; have w4 := hvlp3_2; have w5 := ((aI_at hI.2.1 2 103 (by decide) (by decide) : kb 0 (a 2 103) 6)).1; rw [show (a 2 103).toInt.toNat = nn by omega]; exact hvlp3_1)⟩
      · have h11 := (kc_nle c9)
        have b12 : kb 0 y1 5 := kr_lt1 h11 b5 b8 (by decide)
        have b13 : kb 1 t7 6 := kr_lt2 h11 b5 b8 (by decide)
        refine lv_iload_n hx hb dX12_others_17 rfl (lv_at hl 1 rfl) ?_
        refine lv_iload hx hb dX12_others_18 (lv_at hl 0 rfl) ?_
        refine lv_iload_n hx hb dX12_others_20 rfl (lv_at hl 3 rfl) ?_
        refine lv_icmp_eq (tgt := 42) hx hb dX12_others_21 (by decide) (fun c14 => ?_) (fun c14 => ?_)
        · have b15 : kb 0 bd 5 := kb_eq c14.symm b12
          refine lv_iconst (v := 0) hx hb dX12_others_42 (by decide) ?_
          refine lv_iadd hx hb dX12_others_43 ?_
          refine lv_topi (fun t16 et16 => ?_)
          have b17 : kb 0 t16 6 := kb_eq et16 (kb_add b6 kc_0 (by decide) (by decide))
          have qt16 : t16.toInt = y2.toInt + 0 := by rw [et16]; exact kt_addc b6 kc_0 (by decide) (by decide)
          refine lv_istore_n (lv' := [(3, .int t16), (4, .int y1), (0, .ref o), (1, .int bd), (2, .int pt)]) hx hb dX12_others_44 rfl hl (by decide) rfl (fun ls hl => ?_)
          have b18 : kb 0 t16 6 := ⟨by have w1 := (b17).1; omega, by have w1 := oth_le (a 2) bd pt nn; have w2 := hvlp3_1; have w3 := (b12).2; have w4 := hvlp3_0; have w5 := qt16; omega⟩
          obtain ⟨t19, et19⟩ : ∃ z : Int32, z = y1 + Int32.ofInt 1 := ⟨_, rfl⟩
          have qt19 : t19.toInt = y1.toInt + 1 := by rw [et19]; exact km_inc b12 (by decide) (by decide)
          have b20 : kb 1 t19 6 := kb_inc (k := 1) qt19 b12
          refine lv_iinc (v := t19) (lv' := [(4, .int t19), (3, .int t16), (0, .ref o), (1, .int bd), (2, .int pt)]) hx hb dX12_others_45 hl (k := 1) rfl et19.symm (by decide) rfl (fun ls hl => ?_)
          refine lv_goto (tgt := 5) hx hb dX12_others_48 (by decide) ?_
          exact ihlp3 (nn + 1) _ _ _ t19 t16 (km_up hmlp3 qt19) (kb_w b20 (by decide) (by decide)) b18 (by have w1 := hvlp3_0; have w2 := qt19; omega) (by show t16.toInt = ((oth (a 2) bd pt nn + (if ¬ nI nn = bd ∧ a 2 (16 + nn) = pt then 1 else 0) : Nat) : Int); rw [if_neg (fun q => q.1 (hnn.symm.trans c14))]; have w1 := hvlp3_1; have w2 := qt16; omega) (by have w1 := hvlp3_0; have w2 := kc_nle c9; have w3 := congrArg Int32.toInt et7; omega) hP hD hS (lv_sub hl [0, 1, 2, 3, 4] rfl)
        · refine lv_aload_n hx hb dX12_others_24 rfl (lv_at hl 2 rfl) ?_
          refine va_get (D := D) (ci := 12) (v := .ref (r 2)) (C := RX12) (T := TX12) (N := 48) hx hb hg inC12 hown hK hP 0 rfl rfl 2 (by decide) (hg _ wt5_162) (fun _ h9 => h9) rfl dX12_others_25 ?_
          refine lv_bipush (v := 16) hx hb dX12_others_28 (by decide) ?_
          refine lv_iload hx hb dX12_others_30 (lv_at hl 0 rfl) ?_
          refine lv_iadd hx hb dX12_others_32 ?_
          refine lv_topi (fun t21 et21 => ?_)
          have b22 : kb 16 t21 21 := kb_eq et21 (kb_add kc_16 b12 (by decide) (by decide))
          have qt21 : t21.toInt = 16 + y1.toInt := by rw [et21]; exact kt_cadd kc_16 b12 (by decide) (by decide)
          refine va_iald hx hb hK hP 2 0 rfl rfl (kb_in b22 (by decide) (by decide)) dX12_others_33 ?_
          refine lv_topi (fun t23 et23 => ?_)
          have b24 : kb (-1) t23 9 := kb_eq et23 (aI_ld hI.2.1 2 16 6 b22 (by decide) (by decide) (by decide +kernel))
          refine lv_iload_n hx hb dX12_others_34 rfl (lv_at hl 4 rfl) ?_
          refine lv_icmp_ne (tgt := 42) hx hb dX12_others_35 (by decide) (fun c25 => ?_) (fun c25 => ?_)
          · refine lv_iconst (v := 0) hx hb dX12_others_42 (by decide) ?_
            refine lv_iadd hx hb dX12_others_43 ?_
            refine lv_topi (fun t26 et26 => ?_)
            have b27 : kb 0 t26 6 := kb_eq et26 (kb_add b6 kc_0 (by decide) (by decide))
            have qt26 : t26.toInt = y2.toInt + 0 := by rw [et26]; exact kt_addc b6 kc_0 (by decide) (by decide)
            refine lv_istore_n (lv' := [(3, .int t26), (4, .int y1), (0, .ref o), (1, .int bd), (2, .int pt)]) hx hb dX12_others_44 rfl hl (by decide) rfl (fun ls hl => ?_)
            have b28 : kb 0 t26 6 := ⟨by have w1 := (b27).1; omega, by have w1 := oth_le (a 2) bd pt nn; have w2 := hvlp3_1; have w3 := (b12).2; have w4 := hvlp3_0; have w5 := qt26; omega⟩
            obtain ⟨t29, et29⟩ : ∃ z : Int32, z = y1 + Int32.ofInt 1 := ⟨_, rfl⟩
            have qt29 : t29.toInt = y1.toInt + 1 := by rw [et29]; exact km_inc b12 (by decide) (by decide)
            have b30 : kb 1 t29 6 := kb_inc (k := 1) qt29 b12
            refine lv_iinc (v := t29) (lv' := [(4, .int t29), (3, .int t26), (0, .ref o), (1, .int bd), (2, .int pt)]) hx hb dX12_others_45 hl (k := 1) rfl et29.symm (by decide) rfl (fun ls hl => ?_)
            refine lv_goto (tgt := 5) hx hb dX12_others_48 (by decide) ?_
            exact ihlp3 (nn + 1) _ _ _ t29 t26 (km_up hmlp3 qt29) (kb_w b30 (by decide) (by decide)) b28 (by have w1 := hvlp3_0; have w2 := qt29; omega) (by show t26.toInt = ((oth (a 2) bd pt nn + (if ¬ nI nn = bd ∧ a 2 (16 + nn) = pt then 1 else 0) : Nat) : Int); rw [if_neg (fun q => c25 (((show t23 = a 2 (16 + nn) from (((show t23 = a 2 (16 + y1.toNatClampNeg) from et23.trans (congrArg (a 2) (show t21.toNatClampNeg = _ from by have w1 := qt21; have w2 := (b12).1; unfold Int32.toNatClampNeg; omega))))).trans (by rw [cl_nat hvlp3_0]))).trans q.2))]; have w1 := hvlp3_1; have w2 := qt26; omega) (by have w1 := hvlp3_0; have w2 := kc_nle c9; have w3 := congrArg Int32.toInt et7; omega) hP hD hS (lv_sub hl [0, 1, 2, 3, 4] rfl)
          · have b31 : kb (-1) pt 9 := kb_eq c25.symm b24
            refine lv_iconst (v := 1) hx hb dX12_others_38 (by decide) ?_
            refine lv_goto (tgt := 43) hx hb dX12_others_39 (by decide) ?_
            refine lv_iadd hx hb dX12_others_43 ?_
            refine lv_topi (fun t32 et32 => ?_)
            have b33 : kb 1 t32 7 := kb_eq et32 (kb_add b6 kc_1 (by decide) (by decide))
            have qt32 : t32.toInt = y2.toInt + 1 := by rw [et32]; exact kt_addc b6 kc_1 (by decide) (by decide)
            refine lv_istore_n (lv' := [(3, .int t32), (4, .int y1), (0, .ref o), (1, .int bd), (2, .int pt)]) hx hb dX12_others_44 rfl hl (by decide) rfl (fun ls hl => ?_)
            have b34 : kb 0 t32 6 := ⟨by have w1 := (b33).1; omega, by have w1 := oth_le (a 2) bd pt nn; have w2 := hvlp3_1; have w3 := (b12).2; have w4 := hvlp3_0; have w5 := qt32; omega⟩
            obtain ⟨t35, et35⟩ : ∃ z : Int32, z = y1 + Int32.ofInt 1 := ⟨_, rfl⟩
            have qt35 : t35.toInt = y1.toInt + 1 := by rw [et35]; exact km_inc b12 (by decide) (by decide)
            have b36 : kb 1 t35 6 := kb_inc (k := 1) qt35 b12
            refine lv_iinc (v := t35) (lv' := [(4, .int t35), (3, .int t32), (0, .ref o), (1, .int bd), (2, .int pt)]) hx hb dX12_others_45 hl (k := 1) rfl et35.symm (by decide) rfl (fun ls hl => ?_)
            refine lv_goto (tgt := 5) hx hb dX12_others_48 (by decide) ?_
            exact ihlp3 (nn + 1) _ _ _ t35 t32 (km_up hmlp3 qt35) (kb_w b36 (by decide) (by decide)) b34 (by have w1 := hvlp3_0; have w2 := qt35; omega) (by show t32.toInt = ((oth (a 2) bd pt nn + (if ¬ nI nn = bd ∧ a 2 (16 + nn) = pt then 1 else 0) : Nat) : Int); rw [if_pos ⟨(fun q => c14 (hnn.trans q)), (((show t23 = a 2 (16 + nn) from (((show t23 = a 2 (16 + y1.toNatClampNeg) from et23.trans (congrArg (a 2) (show t21.toNatClampNeg = _ from by have w1 := qt21; have w2 := (b12).1; unfold Int32.toNatClampNeg; omega))))).trans (by rw [cl_nat hvlp3_0]))).symm.trans c25)⟩]; have w1 := hvlp3_1; have w2 := qt32; omega) (by have w1 := hvlp3_0; have w2 := kc_nle c9; have w3 := congrArg Int32.toInt et7; omega) hP hD hS (lv_sub hl [0, 1, 2, 3, 4] rfl)
  exact lp3 (7) 0 _ _ _ 0 0 (by have h1 := (kc_0); unfold kb at h1; omega) (kb_w kc_0 (by decide) (by decide)) (kb_w kc_0 (by decide) (by decide)) (by decide +kernel) (by show (0 : Int32).toInt = ((0 : Nat) : Int); decide +kernel) (((aI_at hI.2.1 2 103 (by decide) (by decide) : kb 0 (a 2 103) 6)).1) hP hD hS (lv_sub hl [0, 1, 2, 3, 4] rfl)
set_option maxHeartbeats 4000000 in
set_option maxRecDepth 100000 in
theorem n_tells  (l : Launch) {D : va_G} {K : Nat → ClassId} (o : Nat) (r : Nat → Nat) (f : Nat → Int32) (a : Nat → Nat → Int32) (g : Nat → Int64) (hI : mI f a) (hd : Int32) (bd : Int32) (pt : Int32) (hi : Int32) (wo : Int32) (bhd : kb 1 hd 4) (bbd : kb 0 bd 5) (bpt : kb 0 pt 9) (bhi : kb 0 hi 20) (bwo : kb 0 wo 20) (DD : Nat → tE) (hp0 : kK (a 2)) (hp1 : lM (a 2) DD) : kI l yX12_tells (Cond.code yX12_tells cX12_tells 13 (some .int) :: kG) (rmD 48 0 0) D (tysK K) [.ref o, .int hd, .int bd, .int pt, .int hi, .int wo] (mW K o r f a g) (fun v (u : mS) => kb 0 v 20 ∧ mI u.1 u.2.1 ∧ mE (XR []) f a u.1 u.2.1 ∧ v.toInt = tlF DD (a 2) (hd.toInt.toNat - 1) bd pt hi.toInt wo.toInt ∧ mZ [22, 23, 24, 25] [26] f a u.1 u.2.1) (fun u => mW K o r u.1 u.2.1 u.2.2) 0 0 := by
  refine kI.of (cc := cX12_tells) (maxL := 13) (ret := (some .int)) (by decide) rfl (Nat.le_of_ble_eq_true rfl) ?_
  intro p e s m below meth c A hx hb hr hml hown hts hlocks hnm hK hP hD hS hA ls hl
  have hE : mE (XR []) f a f a := mE_rf
  have hZ : mZ [22, 23, 24, 25] [26] f a f a := mZ_rf
  have hg : ∀ w ∈ kG, w.before _ s = true := fun w h => hts w (List.mem_cons_of_mem _ h)
  have hown : s.vm.findClass RX12 = some m.cls := hown
  have hl : lv_has ls 13 [(0, .ref o), (1, .int hd), (2, .int bd), (3, .int pt), (4, .int hi), (5, .int wo)] := hl
  refine lv_aload_n hx hb dX12_tells_0 rfl (lv_at hl 0 rfl) ?_
  refine va_get (D := D) (ci := 12) (v := .ref (r 2)) (C := RX12) (T := TX12) (N := 48) hx hb hg inC12 hown hK hP 0 rfl rfl 2 (by decide) (hg _ wt5_162) (fun _ h9 => h9) rfl dX12_tells_1 ?_
  refine lv_bipush (v := 106) hx hb dX12_tells_4 (by decide) ?_
  refine va_iald hx hb hK hP 2 0 rfl rfl (kb_in kc_106 (by decide) (by decide)) dX12_tells_6 ?_
  refine lv_topi (fun t1 et1 => ?_)
  rw [cl_106] at et1
  have b2 : kb (-1) t1 5 := kb_eq et1 (aI_at hI.2.1 2 106 (by decide) (by decide))
  refine lv_iconst (v := (-1)) hx hb dX12_tells_7 (by decide) ?_
  refine lv_icmp_ne (tgt := 14) hx hb dX12_tells_8 (by decide) (fun c3 => ?_) (fun c3 => ?_)
  · have b4 : kb 0 t1 5 := kr_nel c3 b2 kc_m1 (by decide)
    refine lv_aload_n hx hb dX12_tells_14 rfl (lv_at hl 0 rfl) ?_
    refine va_get (D := D) (ci := 12) (v := .ref (r 26)) (C := RX12) (T := TX12) (N := 48) hx hb hg inC12 hown hK hP 0 rfl rfl 26 (by decide) (hg _ wt5_186) (fun _ h9 => h9) rfl dX12_tells_15 ?_
    refine lv_iconst (v := 0) hx hb dX12_tells_18 (by decide) ?_
    refine lv_iload_n hx hb dX12_tells_19 rfl (lv_at hl 2 rfl) ?_
    refine va_iast hx hb hK hP hD hS 12 0 rfl rfl (kb_in kc_0 (by decide) (by decide)) dX12_tells_20 (fun H locs hP hD hS => ?_)
    rw [cl_0] at hP hD
    have hP : va_P D vwCl (mW K o r f (va_up a 26 (upd (a 26) 0 bd)) g) H := hP
    have hD : va_D A (mW K o r f (va_up a 26 (upd (a 26) 0 bd)) g) := hD
    refine k_gen (P := fun z => va_P D vwCl (mW K o r f z g) H ∧ va_D A (mW K o r f z g) ∧ (mI f z) ∧ (mE (XR []) f a f z) ∧ (mZ [22, 23, 24, 25] [26] f a f z)) (va_up a 26 (upd (a 26) 0 bd)) ⟨hP, hD, (mI_s hI (aI_free hI.2.1 26 _ (fun j => ⟨by show (mBa 26 j).1 ≤ _; exact Int.le_refl _, by show _ ≤ (mBa 26 j).2; exact Int.le_refl _⟩)) (by decide) (by decide)), (mE_s hE (by decide) (by decide) (by decide) (by decide)), (mZ_a hZ rfl)⟩ (fun a_5 ea_5 hq => ?_)
    obtain ⟨hP, hD, hI, hE, hZ⟩ := hq
    refine lv_aload_n hx hb dX12_tells_21 rfl (lv_at hl 0 rfl) ?_
    refine va_get (D := D) (ci := 12) (v := .ref (r 26)) (C := RX12) (T := TX12) (N := 48) hx hb hg inC12 hown hK hP 0 rfl rfl 26 (by decide) (hg _ wt5_186) (fun _ h9 => h9) rfl dX12_tells_22 ?_
    refine lv_iconst (v := 1) hx hb dX12_tells_25 (by decide) ?_
    refine lv_aload_n hx hb dX12_tells_26 rfl (lv_at hl 0 rfl) ?_
    refine va_get (D := D) (ci := 12) (v := .ref (r 2)) (C := RX12) (T := TX12) (N := 48) hx hb hg inC12 hown hK hP 0 rfl rfl 2 (by decide) (hg _ wt5_162) (fun _ h9 => h9) rfl dX12_tells_27 ?_
    refine lv_bipush (v := 69) hx hb dX12_tells_30 (by decide) ?_
    refine lv_iload_n hx hb dX12_tells_32 rfl (lv_at hl 2 rfl) ?_
    refine lv_iadd hx hb dX12_tells_33 ?_
    refine lv_topi (fun t6 et6 => ?_)
    have b7 : kb 69 t6 74 := kb_eq et6 (kb_add kc_69 bbd (by decide) (by decide))
    have qt6 : t6.toInt = 69 + bd.toInt := by rw [et6]; exact kt_cadd kc_69 bbd (by decide) (by decide)
    refine va_iald hx hb hK hP 2 0 rfl rfl (kb_in b7 (by decide) (by decide)) dX12_tells_34 ?_
    refine lv_topi (fun t8 et8 => ?_)
    have b9 : kb 0 t8 9 := kb_eq et8 (aI_ld hI.2.1 2 69 6 b7 (by decide) (by decide) (by decide +kernel))
    refine va_iast hx hb hK hP hD hS 12 0 rfl rfl (kb_in kc_1 (by decide) (by decide)) dX12_tells_35 (fun H locs hP hD hS => ?_)
    rw [cl_1] at hP hD
    have hP : va_P D vwCl (mW K o r f (va_up a_5 26 (upd (a_5 26) 1 t8)) g) H := hP
    have hD : va_D A (mW K o r f (va_up a_5 26 (upd (a_5 26) 1 t8)) g) := hD
    refine k_gen (P := fun z => va_P D vwCl (mW K o r f z g) H ∧ va_D A (mW K o r f z g) ∧ (mI f z) ∧ (mE (XR []) f a f z) ∧ (mZ [22, 23, 24, 25] [26] f a f z)) (va_up a_5 26 (upd (a_5 26) 1 t8)) ⟨hP, hD, (mI_s hI (aI_free hI.2.1 26 _ (fun j => ⟨by show (mBa 26 j).1 ≤ _; exact Int.le_refl _, by show _ ≤ (mBa 26 j).2; exact Int.le_refl _⟩)) (by decide) (by decide)), (mE_s hE (by decide) (by decide) (by decide) (by decide)), (mZ_a hZ rfl)⟩ (fun a_10 ea_10 hq => ?_)
    obtain ⟨hP, hD, hI, hE, hZ⟩ := hq
    refine lv_aload_n hx hb dX12_tells_36 rfl (lv_at hl 0 rfl) ?_
    refine va_get (D := D) (ci := 12) (v := .ref (r 26)) (C := RX12) (T := TX12) (N := 48) hx hb hg inC12 hown hK hP 0 rfl rfl 26 (by decide) (hg _ wt5_186) (fun _ h9 => h9) rfl dX12_tells_37 ?_
    refine lv_iconst (v := 2) hx hb dX12_tells_40 (by decide) ?_
    refine lv_iload_n hx hb dX12_tells_41 rfl (lv_at hl 3 rfl) ?_
    refine va_iast hx hb hK hP hD hS 12 0 rfl rfl (kb_in kc_2 (by decide) (by decide)) dX12_tells_42 (fun H locs hP hD hS => ?_)
    rw [cl_2] at hP hD
    have hP : va_P D vwCl (mW K o r f (va_up a_10 26 (upd (a_10 26) 2 pt)) g) H := hP
    have hD : va_D A (mW K o r f (va_up a_10 26 (upd (a_10 26) 2 pt)) g) := hD
    refine k_gen (P := fun z => va_P D vwCl (mW K o r f z g) H ∧ va_D A (mW K o r f z g) ∧ (mI f z) ∧ (mE (XR []) f a f z) ∧ (mZ [22, 23, 24, 25] [26] f a f z)) (va_up a_10 26 (upd (a_10 26) 2 pt)) ⟨hP, hD, (mI_s hI (aI_free hI.2.1 26 _ (fun j => ⟨by show (mBa 26 j).1 ≤ _; exact Int.le_refl _, by show _ ≤ (mBa 26 j).2; exact Int.le_refl _⟩)) (by decide) (by decide)), (mE_s hE (by decide) (by decide) (by decide) (by decide)), (mZ_a hZ rfl)⟩ (fun a_11 ea_11 hq => ?_)
    obtain ⟨hP, hD, hI, hE, hZ⟩ := hq
    refine lv_aload_n hx hb dX12_tells_43 rfl (lv_at hl 0 rfl) ?_
    refine va_get (D := D) (ci := 12) (v := .ref (r 26)) (C := RX12) (T := TX12) (N := 48) hx hb hg inC12 hown hK hP 0 rfl rfl 26 (by decide) (hg _ wt5_186) (fun _ h9 => h9) rfl dX12_tells_44 ?_
    refine lv_iconst (v := 3) hx hb dX12_tells_47 (by decide) ?_
    refine lv_aload_n hx hb dX12_tells_48 rfl (lv_at hl 0 rfl) ?_
    refine lv_iload_n hx hb dX12_tells_49 rfl (lv_at hl 2 rfl) ?_
    refine lv_iload_n hx hb dX12_tells_50 rfl (lv_at hl 3 rfl) ?_
    refine kI.callV (As := [.int bd, .int pt]) (rest := [.int 3, .ref (r 26)]) ⟨hx, hb, hml, hown, hg⟩ (n_hasCraft l o r f a_11 g hI bd pt bbd bpt ) (cwV 2 hg (kgV wt7_35 wt7_37 wp5_5 wt1_14 wt7_38) rfl rfl rfl (by decide +kernel) ⟨by decide, by decide⟩) hK hP hD hS hA mIs [] rfl (wr := []) rfl rfl rfl (fun i h => by cases h) 0 12 rfl rfl rfl hl.1 rfl (Nat.le_of_ble_eq_true rfl) dX12_tells_51 ⟨Nat.le_refl _, Nat.le_refl _⟩ (fun v13 u14 H locs hw12 hP hD hS => ?_)
    have hP : va_P D vwCl (mW K o r f a_11 g) H := hP
    have hD : va_D A (mW K o r f a_11 g) := hD
    refine lv_if_eq (tgt := 61) hx hb dX12_tells_54 (by decide) (fun c15 => ?_) (fun c15 => ?_)
    · have b16 : kb 0 v13 0 := kb_eq c15 kc_0
      refine lv_iconst (v := 0) hx hb dX12_tells_61 (by decide) ?_
      refine va_iast hx hb hK hP hD hS 12 0 rfl rfl (kb_in kc_3 (by decide) (by decide)) dX12_tells_62 (fun H locs hP hD hS => ?_)
      rw [cl_3] at hP hD
      have hP : va_P D vwCl (mW K o r f (va_up a_11 26 (upd (a_11 26) 3 0)) g) H := hP
      have hD : va_D A (mW K o r f (va_up a_11 26 (upd (a_11 26) 3 0)) g) := hD
      refine k_gen (P := fun z => va_P D vwCl (mW K o r f z g) H ∧ va_D A (mW K o r f z g) ∧ (mI f z) ∧ (mE (XR []) f a f z) ∧ (mZ [22, 23, 24, 25] [26] f a f z)) (va_up a_11 26 (upd (a_11 26) 3 0)) ⟨hP, hD, (mI_s hI (aI_free hI.2.1 26 _ (fun j => ⟨by show (mBa 26 j).1 ≤ _; exact Int.le_refl _, by show _ ≤ (mBa 26 j).2; exact Int.le_refl _⟩)) (by decide) (by decide)), (mE_s hE (by decide) (by decide) (by decide) (by decide)), (mZ_a hZ rfl)⟩ (fun a_17 ea_17 hq => ?_)
      obtain ⟨hP, hD, hI, hE, hZ⟩ := hq
      refine lv_aload_n hx hb dX12_tells_63 rfl (lv_at hl 0 rfl) ?_
      refine va_get (D := D) (ci := 12) (v := .ref (r 26)) (C := RX12) (T := TX12) (N := 48) hx hb hg inC12 hown hK hP 0 rfl rfl 26 (by decide) (hg _ wt5_186) (fun _ h9 => h9) rfl dX12_tells_64 ?_
      refine lv_iconst (v := 4) hx hb dX12_tells_67 (by decide) ?_
      refine lv_aload_n hx hb dX12_tells_68 rfl (lv_at hl 0 rfl) ?_
      refine va_get (D := D) (ci := 12) (v := .ref (r 2)) (C := RX12) (T := TX12) (N := 48) hx hb hg inC12 hown hK hP 0 rfl rfl 2 (by decide) (hg _ wt5_162) (fun _ h9 => h9) rfl dX12_tells_69 ?_
      refine lv_bipush (v := 53) hx hb dX12_tells_72 (by decide) ?_
      refine lv_iload_n hx hb dX12_tells_74 rfl (lv_at hl 3 rfl) ?_
      refine lv_iadd hx hb dX12_tells_75 ?_
      refine lv_topi (fun t18 et18 => ?_)
      have b19 : kb 53 t18 62 := kb_eq et18 (kb_add kc_53 bpt (by decide) (by decide))
      have qt18 : t18.toInt = 53 + pt.toInt := by rw [et18]; exact kt_cadd kc_53 bpt (by decide) (by decide)
      refine va_iald hx hb hK hP 2 0 rfl rfl (kb_in b19 (by decide) (by decide)) dX12_tells_76 ?_
      refine lv_topi (fun t20 et20 => ?_)
      refine va_iast hx hb hK hP hD hS 12 0 rfl rfl (kb_in kc_4 (by decide) (by decide)) dX12_tells_77 (fun H locs hP hD hS => ?_)
      rw [cl_4] at hP hD
      have hP : va_P D vwCl (mW K o r f (va_up a_17 26 (upd (a_17 26) 4 t20)) g) H := hP
      have hD : va_D A (mW K o r f (va_up a_17 26 (upd (a_17 26) 4 t20)) g) := hD
      refine k_gen (P := fun z => va_P D vwCl (mW K o r f z g) H ∧ va_D A (mW K o r f z g) ∧ (mI f z) ∧ (mE (XR []) f a f z) ∧ (mZ [22, 23, 24, 25] [26] f a f z)) (va_up a_17 26 (upd (a_17 26) 4 t20)) ⟨hP, hD, (mI_s hI (aI_free hI.2.1 26 _ (fun j => ⟨by show (mBa 26 j).1 ≤ _; exact Int.le_refl _, by show _ ≤ (mBa 26 j).2; exact Int.le_refl _⟩)) (by decide) (by decide)), (mE_s hE (by decide) (by decide) (by decide) (by decide)), (mZ_a hZ rfl)⟩ (fun a_21 ea_21 hq => ?_)
      obtain ⟨hP, hD, hI, hE, hZ⟩ := hq
      refine lv_aload_n hx hb dX12_tells_78 rfl (lv_at hl 0 rfl) ?_
      refine va_get (D := D) (ci := 12) (v := .ref (r 26)) (C := RX12) (T := TX12) (N := 48) hx hb hg inC12 hown hK hP 0 rfl rfl 26 (by decide) (hg _ wt5_186) (fun _ h9 => h9) rfl dX12_tells_79 ?_
      refine lv_iconst (v := 5) hx hb dX12_tells_82 (by decide) ?_
      refine lv_aload_n hx hb dX12_tells_83 rfl (lv_at hl 0 rfl) ?_
      refine lv_iload_n hx hb dX12_tells_84 rfl (lv_at hl 2 rfl) ?_
      refine lv_iload_n hx hb dX12_tells_85 rfl (lv_at hl 3 rfl) ?_
      refine kI.callV (As := [.int bd, .int pt]) (rest := [.int 5, .ref (r 26)]) ⟨hx, hb, hml, hown, hg⟩ (n_others l o r f a_21 g hI bd pt (kb_w bbd (by decide) (by decide)) ) (cwV 2 hg (kgV wt7_43 wt7_45 wp5_7 wt1_14 wt7_46) rfl rfl rfl (by decide +kernel) ⟨by decide, by decide⟩) hK hP hD hS hA mIs [] rfl (wr := []) rfl rfl rfl (fun i h => by cases h) 0 12 rfl rfl rfl hl.1 rfl (Nat.le_of_ble_eq_true rfl) dX12_tells_86 ⟨Nat.le_refl _, Nat.le_refl _⟩ (fun v23 u24 H locs hw22 hP hD hS => ?_)
      have hP : va_P D vwCl (mW K o r f a_21 g) H := hP
      have hD : va_D A (mW K o r f a_21 g) := hD
      refine va_iast hx hb hK hP hD hS 12 0 rfl rfl (kb_in kc_5 (by decide) (by decide)) dX12_tells_89 (fun H locs hP hD hS => ?_)
      rw [cl_5] at hP hD
      have hP : va_P D vwCl (mW K o r f (va_up a_21 26 (upd (a_21 26) 5 v23)) g) H := hP
      have hD : va_D A (mW K o r f (va_up a_21 26 (upd (a_21 26) 5 v23)) g) := hD
      refine k_gen (P := fun z => va_P D vwCl (mW K o r f z g) H ∧ va_D A (mW K o r f z g) ∧ (mI f z) ∧ (mE (XR []) f a f z) ∧ (mZ [22, 23, 24, 25] [26] f a f z)) (va_up a_21 26 (upd (a_21 26) 5 v23)) ⟨hP, hD, (mI_s hI (aI_free hI.2.1 26 _ (fun j => ⟨by show (mBa 26 j).1 ≤ _; exact Int.le_refl _, by show _ ≤ (mBa 26 j).2; exact Int.le_refl _⟩)) (by decide) (by decide)), (mE_s hE (by decide) (by decide) (by decide) (by decide)), (mZ_a hZ rfl)⟩ (fun a_25 ea_25 hq => ?_)
      obtain ⟨hP, hD, hI, hE, hZ⟩ := hq
      refine lv_aload_n hx hb dX12_tells_90 rfl (lv_at hl 0 rfl) ?_
      refine va_get (D := D) (ci := 12) (v := .ref (r 26)) (C := RX12) (T := TX12) (N := 48) hx hb hg inC12 hown hK hP 0 rfl rfl 26 (by decide) (hg _ wt5_186) (fun _ h9 => h9) rfl dX12_tells_91 ?_
      refine lv_bipush (v := 6) hx hb dX12_tells_94 (by decide) ?_
      refine lv_aload_n hx hb dX12_tells_96 rfl (lv_at hl 0 rfl) ?_
      refine va_get (D := D) (ci := 12) (v := .ref (r 2)) (C := RX12) (T := TX12) (N := 48) hx hb hg inC12 hown hK hP 0 rfl rfl 2 (by decide) (hg _ wt5_162) (fun _ h9 => h9) rfl dX12_tells_97 ?_
      refine lv_bipush (v := 101) hx hb dX12_tells_100 (by decide) ?_
      refine va_iald hx hb hK hP 2 0 rfl rfl (kb_in kc_101 (by decide) (by decide)) dX12_tells_102 ?_
      refine lv_topi (fun t26 et26 => ?_)
      rw [cl_101] at et26
      refine va_iast hx hb hK hP hD hS 12 0 rfl rfl (kb_in kc_6 (by decide) (by decide)) dX12_tells_103 (fun H locs hP hD hS => ?_)
      rw [cl_6] at hP hD
      have hP : va_P D vwCl (mW K o r f (va_up a_25 26 (upd (a_25 26) 6 t26)) g) H := hP
      have hD : va_D A (mW K o r f (va_up a_25 26 (upd (a_25 26) 6 t26)) g) := hD
      refine k_gen (P := fun z => va_P D vwCl (mW K o r f z g) H ∧ va_D A (mW K o r f z g) ∧ (mI f z) ∧ (mE (XR []) f a f z) ∧ (mZ [22, 23, 24, 25] [26] f a f z)) (va_up a_25 26 (upd (a_25 26) 6 t26)) ⟨hP, hD, (mI_s hI (aI_free hI.2.1 26 _ (fun j => ⟨by show (mBa 26 j).1 ≤ _; exact Int.le_refl _, by show _ ≤ (mBa 26 j).2; exact Int.le_refl _⟩)) (by decide) (by decide)), (mE_s hE (by decide) (by decide) (by decide) (by decide)), (mZ_a hZ rfl)⟩ (fun a_27 ea_27 hq => ?_)
      obtain ⟨hP, hD, hI, hE, hZ⟩ := hq
      refine lv_aload_n hx hb dX12_tells_104 rfl (lv_at hl 0 rfl) ?_
      refine va_get (D := D) (ci := 12) (v := .ref (r 26)) (C := RX12) (T := TX12) (N := 48) hx hb hg inC12 hown hK hP 0 rfl rfl 26 (by decide) (hg _ wt5_186) (fun _ h9 => h9) rfl dX12_tells_105 ?_
      refine lv_bipush (v := 7) hx hb dX12_tells_108 (by decide) ?_
      refine lv_aload_n hx hb dX12_tells_110 rfl (lv_at hl 0 rfl) ?_
      refine va_get (D := D) (ci := 12) (v := .ref (r 2)) (C := RX12) (T := TX12) (N := 48) hx hb hg inC12 hown hK hP 0 rfl rfl 2 (by decide) (hg _ wt5_162) (fun _ h9 => h9) rfl dX12_tells_111 ?_
      refine lv_iconst (v := 0) hx hb dX12_tells_114 (by decide) ?_
      refine lv_iload_n hx hb dX12_tells_115 rfl (lv_at hl 3 rfl) ?_
      refine lv_iadd hx hb dX12_tells_116 ?_
      refine k_top (z := pt) (Int32.zero_add _) ?_
      refine va_iald hx hb hK hP 2 0 rfl rfl (kb_in bpt (by decide) (by decide)) dX12_tells_117 ?_
      refine lv_topi (fun t28 et28 => ?_)
      have b29 : kb 0 t28 99 := kb_eq et28 (aI_ld hI.2.1 2 0 10 bpt (by decide) (by decide) (by decide +kernel))
      refine va_iast hx hb hK hP hD hS 12 0 rfl rfl (kb_in kc_7 (by decide) (by decide)) dX12_tells_118 (fun H locs hP hD hS => ?_)
      rw [cl_7] at hP hD
      have hP : va_P D vwCl (mW K o r f (va_up a_27 26 (upd (a_27 26) 7 t28)) g) H := hP
      have hD : va_D A (mW K o r f (va_up a_27 26 (upd (a_27 26) 7 t28)) g) := hD
      refine k_gen (P := fun z => va_P D vwCl (mW K o r f z g) H ∧ va_D A (mW K o r f z g) ∧ (mI f z) ∧ (mE (XR []) f a f z) ∧ (mZ [22, 23, 24, 25] [26] f a f z)) (va_up a_27 26 (upd (a_27 26) 7 t28)) ⟨hP, hD, (mI_s hI (aI_free hI.2.1 26 _ (fun j => ⟨by show (mBa 26 j).1 ≤ _; exact Int.le_refl _, by show _ ≤ (mBa 26 j).2; exact Int.le_refl _⟩)) (by decide) (by decide)), (mE_s hE (by decide) (by decide) (by decide) (by decide)), (mZ_a hZ rfl)⟩ (fun a_30 ea_30 hq => ?_)
      obtain ⟨hP, hD, hI, hE, hZ⟩ := hq
      refine lv_aload_n hx hb dX12_tells_119 rfl (lv_at hl 0 rfl) ?_
      refine va_get (D := D) (ci := 12) (v := .ref (r 26)) (C := RX12) (T := TX12) (N := 48) hx hb hg inC12 hown hK hP 0 rfl rfl 26 (by decide) (hg _ wt5_186) (fun _ h9 => h9) rfl dX12_tells_120 ?_
      refine lv_bipush (v := 8) hx hb dX12_tells_123 (by decide) ?_
      refine lv_aload_n hx hb dX12_tells_125 rfl (lv_at hl 0 rfl) ?_
      refine va_get (D := D) (ci := 12) (v := .ref (r 2)) (C := RX12) (T := TX12) (N := 48) hx hb hg inC12 hown hK hP 0 rfl rfl 2 (by decide) (hg _ wt5_162) (fun _ h9 => h9) rfl dX12_tells_126 ?_
      refine lv_bipush (v := 10) hx hb dX12_tells_129 (by decide) ?_
      refine lv_iload_n hx hb dX12_tells_131 rfl (lv_at hl 2 rfl) ?_
      refine lv_iadd hx hb dX12_tells_132 ?_
      refine lv_topi (fun t31 et31 => ?_)
      have b32 : kb 10 t31 15 := kb_eq et31 (kb_add kc_10 bbd (by decide) (by decide))
      have qt31 : t31.toInt = 10 + bd.toInt := by rw [et31]; exact kt_cadd kc_10 bbd (by decide) (by decide)
      refine va_iald hx hb hK hP 2 0 rfl rfl (kb_in b32 (by decide) (by decide)) dX12_tells_133 ?_
      refine lv_topi (fun t33 et33 => ?_)
      have b34 : kb 0 t33 99 := kb_eq et33 (aI_ld hI.2.1 2 10 6 b32 (by decide) (by decide) (by decide +kernel))
      refine va_iast hx hb hK hP hD hS 12 0 rfl rfl (kb_in kc_8 (by decide) (by decide)) dX12_tells_134 (fun H locs hP hD hS => ?_)
      rw [cl_8] at hP hD
      have hP : va_P D vwCl (mW K o r f (va_up a_30 26 (upd (a_30 26) 8 t33)) g) H := hP
      have hD : va_D A (mW K o r f (va_up a_30 26 (upd (a_30 26) 8 t33)) g) := hD
      refine k_gen (P := fun z => va_P D vwCl (mW K o r f z g) H ∧ va_D A (mW K o r f z g) ∧ (mI f z) ∧ (mE (XR []) f a f z) ∧ (mZ [22, 23, 24, 25] [26] f a f z)) (va_up a_30 26 (upd (a_30 26) 8 t33)) ⟨hP, hD, (mI_s hI (aI_free hI.2.1 26 _ (fun j => ⟨by show (mBa 26 j).1 ≤ _; exact Int.le_refl _, by show _ ≤ (mBa 26 j).2; exact Int.le_refl _⟩)) (by decide) (by decide)), (mE_s hE (by decide) (by decide) (by decide) (by decide)), (mZ_a hZ rfl)⟩ (fun a_35 ea_35 hq => ?_)
      obtain ⟨hP, hD, hI, hE, hZ⟩ := hq
      refine lv_aload_n hx hb dX12_tells_135 rfl (lv_at hl 0 rfl) ?_
      refine va_get (D := D) (ci := 12) (v := .ref (r 26)) (C := RX12) (T := TX12) (N := 48) hx hb hg inC12 hown hK hP 0 rfl rfl 26 (by decide) (hg _ wt5_186) (fun _ h9 => h9) rfl dX12_tells_136 ?_
      refine lv_bipush (v := 9) hx hb dX12_tells_139 (by decide) ?_
      refine lv_aload_n hx hb dX12_tells_141 rfl (lv_at hl 0 rfl) ?_
      refine va_get (D := D) (ci := 12) (v := .ref (r 2)) (C := RX12) (T := TX12) (N := 48) hx hb hg inC12 hown hK hP 0 rfl rfl 2 (by decide) (hg _ wt5_162) (fun _ h9 => h9) rfl dX12_tells_142 ?_
      refine lv_bipush (v := 22) hx hb dX12_tells_145 (by decide) ?_
      refine va_iald hx hb hK hP 2 0 rfl rfl (kb_in kc_22 (by decide) (by decide)) dX12_tells_147 ?_
      refine lv_topi (fun t36 et36 => ?_)
      rw [cl_22] at et36
      refine va_iast hx hb hK hP hD hS 12 0 rfl rfl (kb_in kc_9 (by decide) (by decide)) dX12_tells_148 (fun H locs hP hD hS => ?_)
      rw [cl_9] at hP hD
      have hP : va_P D vwCl (mW K o r f (va_up a_35 26 (upd (a_35 26) 9 t36)) g) H := hP
      have hD : va_D A (mW K o r f (va_up a_35 26 (upd (a_35 26) 9 t36)) g) := hD
      refine k_gen (P := fun z => va_P D vwCl (mW K o r f z g) H ∧ va_D A (mW K o r f z g) ∧ (mI f z) ∧ (mE (XR []) f a f z) ∧ (mZ [22, 23, 24, 25] [26] f a f z)) (va_up a_35 26 (upd (a_35 26) 9 t36)) ⟨hP, hD, (mI_s hI (aI_free hI.2.1 26 _ (fun j => ⟨by show (mBa 26 j).1 ≤ _; exact Int.le_refl _, by show _ ≤ (mBa 26 j).2; exact Int.le_refl _⟩)) (by decide) (by decide)), (mE_s hE (by decide) (by decide) (by decide) (by decide)), (mZ_a hZ rfl)⟩ (fun a_37 ea_37 hq => ?_)
      obtain ⟨hP, hD, hI, hE, hZ⟩ := hq
      refine lv_aload_n hx hb dX12_tells_149 rfl (lv_at hl 0 rfl) ?_
      refine lv_iconst (v := 0) hx hb dX12_tells_150 (by decide) ?_
      refine va_put (D := D) (ci := 12) (v := .int 0) (ty := .boolean) (C := RX12) (T := TX12) (N := 48) hx hb hg inC12 tyX12 tyX12_ok nmX12 hown hK hP hD hS 0 rfl rfl 25 (by decide) (hg _ wt5_185) (fun _ h9 => h9) rfl (by decide +kernel) rfl rfl (Nat.le_of_ble_eq_true rfl) dX12_tells_151 (fun H locs hP hD hS => ?_)
      have hP : va_P D vwCl (mW K o r (upd f 25 0) a_37 g) H := hP
      have hD : va_D A (mW K o r (upd f 25 0) a_37 g) := hD
      refine k_gen (P := fun z => va_P D vwCl (mW K o r z a_37 g) H ∧ va_D A (mW K o r z a_37 g) ∧ (mI z a_37) ∧ (mE (XR []) f a z a_37) ∧ (mZ [22, 23, 24, 25] [26] f a z a_37)) (upd f 25 0) ⟨hP, hD, (mI_f hI (fI_st hI.1 25 kc_0 (by decide) (by decide))), (mE_f hE (by decide)), (mZ_f hZ rfl)⟩ (fun f_38 ef_38 hq => ?_)
      obtain ⟨hP, hD, hI, hE, hZ⟩ := hq
      refine lv_iload hx hb dX12_tells_154 (lv_at hl 5 rfl) ?_
      refine lv_i2l hx hb dX12_tells_156 rfl ?_
      refine lv_topl (fun t39 et39 => ?_)
      have b40 : kbl 0 t39 20 := kbl_eq et39 (kbl_i2l bwo)
      refine lv_lstore (lv' := [(6, .long t39), (0, .ref o), (1, .int hd), (2, .int bd), (3, .int pt), (4, .int hi), (5, .int wo)]) hx hb dX12_tells_157 hl (by decide) rfl (fun ls hl => ?_)
      refine lv_aload_n hx hb dX12_tells_159 rfl (lv_at hl 1 rfl) ?_
      refine lv_sipush (v := 400) hx hb dX12_tells_160 (by decide) ?_
      refine lv_aload_n hx hb dX12_tells_163 rfl (lv_at hl 1 rfl) ?_
      refine va_get (D := D) (ci := 12) (v := .ref (r 2)) (C := RX12) (T := TX12) (N := 48) hx hb hg inC12 hown hK hP 0 rfl rfl 2 (by decide) (hg _ wt5_162) (fun _ h9 => h9) rfl dX12_tells_164 ?_
      refine lv_bipush (v := 106) hx hb dX12_tells_167 (by decide) ?_
      refine va_iald hx hb hK hP 2 0 rfl rfl (kb_in kc_106 (by decide) (by decide)) dX12_tells_169 ?_
      refine k_top (z := t1) (by rw [cl_106]; exact ((show a_37 2 106 = a_35 2 106 from kn7_u2 ea_37 rfl).trans ((show a_35 2 106 = a_30 2 106 from kn7_u2 ea_35 rfl).trans ((show a_30 2 106 = a_27 2 106 from kn7_u2 ea_30 rfl).trans ((show a_27 2 106 = a_25 2 106 from kn7_u2 ea_27 rfl).trans ((show a_25 2 106 = a_21 2 106 from kn7_u2 ea_25 rfl).trans ((show a_21 2 106 = a_17 2 106 from kn7_u2 ea_21 rfl).trans ((show a_17 2 106 = a_11 2 106 from kn7_u2 ea_17 rfl).trans ((show a_11 2 106 = a_10 2 106 from kn7_u2 ea_11 rfl).trans ((show a_10 2 106 = a_5 2 106 from kn7_u2 ea_10 rfl).trans ((show a_5 2 106 = a 2 106 from kn7_u2 ea_5 rfl).trans et1.symm))))))))))) ?_
      refine lv_imul hx hb dX12_tells_170 ?_
      refine lv_topi (fun t41 et41 => ?_)
      have b42 : kb 0 t41 2000 := kb_eq et41 (kb_mul kc_400 b4 (by decide) (by decide) (by decide))
      have qt41 : t41.toInt = 400 * t1.toInt := by rw [et41]; exact kt_cmul kc_400 b4 (by decide) (by decide) (by decide)
      refine va_put (D := D) (ci := 12) (v := .int t41) (ty := .int) (C := RX12) (T := TX12) (N := 48) hx hb hg inC12 tyX12 tyX12_ok nmX12 hown hK hP hD hS 0 rfl rfl 22 (by decide) (hg _ wt5_182) (fun _ h9 => h9) rfl (by decide +kernel) rfl rfl (Nat.le_of_ble_eq_true rfl) dX12_tells_171 (fun H locs hP hD hS => ?_)
      have hP : va_P D vwCl (mW K o r (upd f_38 22 t41) a_37 g) H := hP
      have hD : va_D A (mW K o r (upd f_38 22 t41) a_37 g) := hD
      refine k_gen (P := fun z => va_P D vwCl (mW K o r z a_37 g) H ∧ va_D A (mW K o r z a_37 g) ∧ (mI z a_37) ∧ (mE (XR []) f a z a_37) ∧ (mZ [22, 23, 24, 25] [26] f a z a_37)) (upd f_38 22 t41) ⟨hP, hD, (mI_f hI (fI_st hI.1 22 (kb_any _) (by decide) (by decide))), (mE_f hE (by decide)), (mZ_f hZ rfl)⟩ (fun f_43 ef_43 hq => ?_)
      obtain ⟨hP, hD, hI, hE, hZ⟩ := hq
      refine lv_aload_n hx hb dX12_tells_174 rfl (lv_at hl 1 rfl) ?_
      refine lv_aload_n hx hb dX12_tells_175 rfl (lv_at hl 1 rfl) ?_
      refine va_get (D := D) (ci := 12) (v := .int (f_43 22)) (C := RX12) (T := TX12) (N := 48) hx hb hg inC12 hown hK hP 0 rfl rfl 22 (by decide) (hg _ wt5_182) (fun _ h9 => h9) rfl dX12_tells_176 ?_
      refine k_top (z := t41) (show f_43 22 = t41 from kn7_u1 ef_43 rfl) ?_
      refine lv_aload_n hx hb dX12_tells_179 rfl (lv_at hl 1 rfl) ?_
      refine va_get (D := D) (ci := 12) (v := .ref (r 2)) (C := RX12) (T := TX12) (N := 48) hx hb hg inC12 hown hK hP 0 rfl rfl 2 (by decide) (hg _ wt5_162) (fun _ h9 => h9) rfl dX12_tells_180 ?_
      refine lv_bipush (v := 107) hx hb dX12_tells_183 (by decide) ?_
      refine lv_aload_n hx hb dX12_tells_185 rfl (lv_at hl 1 rfl) ?_
      refine va_get (D := D) (ci := 12) (v := .ref (r 2)) (C := RX12) (T := TX12) (N := 48) hx hb hg inC12 hown hK hP 0 rfl rfl 2 (by decide) (hg _ wt5_162) (fun _ h9 => h9) rfl dX12_tells_186 ?_
      refine lv_bipush (v := 106) hx hb dX12_tells_189 (by decide) ?_
      refine va_iald hx hb hK hP 2 0 rfl rfl (kb_in kc_106 (by decide) (by decide)) dX12_tells_191 ?_
      refine k_top (z := t1) (by rw [cl_106]; exact ((show a_37 2 106 = a_35 2 106 from kn7_u2 ea_37 rfl).trans ((show a_35 2 106 = a_30 2 106 from kn7_u2 ea_35 rfl).trans ((show a_30 2 106 = a_27 2 106 from kn7_u2 ea_30 rfl).trans ((show a_27 2 106 = a_25 2 106 from kn7_u2 ea_27 rfl).trans ((show a_25 2 106 = a_21 2 106 from kn7_u2 ea_25 rfl).trans ((show a_21 2 106 = a_17 2 106 from kn7_u2 ea_21 rfl).trans ((show a_17 2 106 = a_11 2 106 from kn7_u2 ea_17 rfl).trans ((show a_11 2 106 = a_10 2 106 from kn7_u2 ea_11 rfl).trans ((show a_10 2 106 = a_5 2 106 from kn7_u2 ea_10 rfl).trans ((show a_5 2 106 = a 2 106 from kn7_u2 ea_5 rfl).trans et1.symm))))))))))) ?_
      refine lv_iadd hx hb dX12_tells_192 ?_
      refine lv_topi (fun t44 et44 => ?_)
      have b45 : kb 107 t44 112 := kb_eq et44 (kb_add kc_107 b4 (by decide) (by decide))
      have qt44 : t44.toInt = 107 + t1.toInt := by rw [et44]; exact kt_cadd kc_107 b4 (by decide) (by decide)
      refine va_iald hx hb hK hP 2 0 rfl rfl (kb_in b45 (by decide) (by decide)) dX12_tells_193 ?_
      refine lv_topi (fun t46 et46 => ?_)
      have b47 : kb 0 t46 400 := kb_eq et46 (aI_ld hI.2.1 2 107 6 b45 (by decide) (by decide) (by decide +kernel))
      refine lv_iadd hx hb dX12_tells_194 ?_
      refine lv_topi (fun t48 et48 => ?_)
      have b49 : kb 0 t48 2400 := kb_eq et48 (kb_add b42 b47 (by decide) (by decide))
      have qt48 : t48.toInt = t41.toInt + t46.toInt := by rw [et48]; exact kt_add b42 b47 (by decide) (by decide)
      refine va_put (D := D) (ci := 12) (v := .int t48) (ty := .int) (C := RX12) (T := TX12) (N := 48) hx hb hg inC12 tyX12 tyX12_ok nmX12 hown hK hP hD hS 0 rfl rfl 23 (by decide) (hg _ wt5_183) (fun _ h9 => h9) rfl (by decide +kernel) rfl rfl (Nat.le_of_ble_eq_true rfl) dX12_tells_195 (fun H locs hP hD hS => ?_)
      have hP : va_P D vwCl (mW K o r (upd f_43 23 t48) a_37 g) H := hP
      have hD : va_D A (mW K o r (upd f_43 23 t48) a_37 g) := hD
      refine k_gen (P := fun z => va_P D vwCl (mW K o r z a_37 g) H ∧ va_D A (mW K o r z a_37 g) ∧ (mI z a_37) ∧ (mE (XR []) f a z a_37) ∧ (mZ [22, 23, 24, 25] [26] f a z a_37)) (upd f_43 23 t48) ⟨hP, hD, (mI_f hI (fI_st hI.1 23 (kb_any _) (by decide) (by decide))), (mE_f hE (by decide)), (mZ_f hZ rfl)⟩ (fun f_50 ef_50 hq => ?_)
      obtain ⟨hP, hD, hI, hE, hZ⟩ := hq
      have hA2 : a_37 2 = a 2 := ((((((((((show a_37 2 = a_35 2 from by rw [← ea_37]; rfl).trans (show a_35 2 = a_30 2 from by rw [← ea_35]; rfl)).trans (show a_30 2 = a_27 2 from by rw [← ea_30]; rfl)).trans (show a_27 2 = a_25 2 from by rw [← ea_27]; rfl)).trans (show a_25 2 = a_21 2 from by rw [← ea_25]; rfl)).trans (show a_21 2 = a_17 2 from by rw [← ea_21]; rfl)).trans (show a_17 2 = a_11 2 from by rw [← ea_17]; rfl)).trans (show a_11 2 = a_10 2 from by rw [← ea_11]; rfl)).trans (show a_10 2 = a_5 2 from by rw [← ea_10]; rfl)).trans (show a_5 2 = a 2 from by rw [← ea_5]; rfl))
      have hfv : t1 = a 2 106 := by rw [← hA2]; exact (((show a_37 2 106 = a_35 2 106 from kn7_u2 ea_37 rfl).trans ((show a_35 2 106 = a_30 2 106 from kn7_u2 ea_35 rfl).trans ((show a_30 2 106 = a_27 2 106 from kn7_u2 ea_30 rfl).trans ((show a_27 2 106 = a_25 2 106 from kn7_u2 ea_27 rfl).trans ((show a_25 2 106 = a_21 2 106 from kn7_u2 ea_25 rfl).trans ((show a_21 2 106 = a_17 2 106 from kn7_u2 ea_21 rfl).trans ((show a_17 2 106 = a_11 2 106 from kn7_u2 ea_17 rfl).trans ((show a_11 2 106 = a_10 2 106 from kn7_u2 ea_11 rfl).trans ((show a_10 2 106 = a_5 2 106 from kn7_u2 ea_10 rfl).trans ((show a_5 2 106 = a 2 106 from kn7_u2 ea_5 rfl).trans et1.symm))))))))))).symm
      obtain ⟨t, ht⟩ : ∃ t : Nat, (t : Int) = t1.toInt := ⟨t1.toInt.toNat, by have h1 := (b4).1; omega⟩
      have ht6 : t < 6 := by have h1 := (b4).2; omega
      have htn : (a 2 106).toInt.toNat = t := by rw [← hfv]; omega
      have hix : t44.toNatClampNeg = 107 + t := by have h1 := kb_cl b45 (by decide); omega
      have hsz : a_37 2 (107 + t) = t46 := by rw [← hix]; exact et46.symm
      have hk0 : eS f_50 a_37 t false := ⟨by omega, by rw [(show f_50 23 = t48 from kn7_u1 ef_50 rfl), hsz, qt48, qt41]; omega, ((show f_50 25 = f_43 25 from kn7_u1 ef_50 rfl).trans ((show f_43 25 = f_38 25 from kn7_u1 ef_43 rfl).trans (show f_38 25 = 0 from kn7_u1 ef_38 rfl))), by rw [hsz]; exact (b47).1, by rw [hsz]; exact (b47).2⟩
      have hg0 : t41.toInt = 400 * (t : Int) + ((0 : Nat) : Int) := by rw [qt41]; omega
      obtain ⟨T, hTq, hTx⟩ := hp1 t (by have w1 := hp0.2.2; rw [← hfv] at w1; omega)
      rw [← htn] at hTx
      obtain ⟨S, hSz⟩ : ∃ S : Nat, (S : Int) = (a_37 2 (107 + t)).toInt := ⟨(a_37 2 (107 + t)).toInt.toNat, by have h1 := hk0.2.2.2.1; omega⟩
      have hp2 : tQ (a_37 2) t T := by rw [hA2]; exact hTq
      have hTx : txE false T S (DD (a 2 106).toInt.toNat) := by have w1 := hTx; rw [htn, ← hA2, show (a_37 2 (107 + t)).toInt.toNat = S by omega] at w1; rw [htn]; exact w1
      have hlw : ∀ c, 9 ≤ c → c ≤ 18 → (a_37 26 (c - 9)).toInt = (lwW (a 2) bd pt) (wIx false (mpL.getD c 0) 0) := by
        intro c h1 h2
        rcases (show c = 9 ∨ c = 10 ∨ c = 11 ∨ c = 12 ∨ c = 13 ∨ c = 14 ∨ c = 15 ∨ c = 16 ∨ c = 17 ∨ c = 18 by omega) with e | e | e | e | e | e | e | e | e | e
        · rw [e, show wIx false (mpL.getD 9 0) 0 = 0 from by decide +kernel]; show (a_37 26 0).toInt = _; rw [((show a_37 26 0 = a_35 26 0 from kn7_u2 ea_37 rfl).trans ((show a_35 26 0 = a_30 26 0 from kn7_u2 ea_35 rfl).trans ((show a_30 26 0 = a_27 26 0 from kn7_u2 ea_30 rfl).trans ((show a_27 26 0 = a_25 26 0 from kn7_u2 ea_27 rfl).trans ((show a_25 26 0 = a_21 26 0 from kn7_u2 ea_25 rfl).trans ((show a_21 26 0 = a_17 26 0 from kn7_u2 ea_21 rfl).trans ((show a_17 26 0 = a_11 26 0 from kn7_u2 ea_17 rfl).trans ((show a_11 26 0 = a_10 26 0 from kn7_u2 ea_11 rfl).trans ((show a_10 26 0 = a_5 26 0 from kn7_u2 ea_10 rfl).trans (show a_5 26 0 = bd from by rw [← ea_5]; exact (pk_us (f := a 26) (k := 0) (x := bd))))))))))))]; exact rfl
        · rw [e, show wIx false (mpL.getD 10 0) 0 = 1 from by decide +kernel]; show (a_37 26 1).toInt = _; rw [((show a_37 26 1 = a_35 26 1 from kn7_u2 ea_37 rfl).trans ((show a_35 26 1 = a_30 26 1 from kn7_u2 ea_35 rfl).trans ((show a_30 26 1 = a_27 26 1 from kn7_u2 ea_30 rfl).trans ((show a_27 26 1 = a_25 26 1 from kn7_u2 ea_27 rfl).trans ((show a_25 26 1 = a_21 26 1 from kn7_u2 ea_25 rfl).trans ((show a_21 26 1 = a_17 26 1 from kn7_u2 ea_21 rfl).trans ((show a_17 26 1 = a_11 26 1 from kn7_u2 ea_17 rfl).trans ((show a_11 26 1 = a_10 26 1 from kn7_u2 ea_11 rfl).trans (show a_10 26 1 = t8 from by rw [← ea_10]; exact (pk_us (f := a_5 26) (k := 1) (x := t8)))))))))))]; exact (congrArg Int32.toInt (show t8 = a 2 (69 + bd.toNatClampNeg) from (et8).trans ((congrFun (show a_5 2 = a 2 from (show a_5 2 = a 2 from by rw [← ea_5]; rfl)) _).trans (congrArg (a 2) (show t6.toNatClampNeg = _ from by have w1 := qt6; have w2 := (bbd).1; unfold Int32.toNatClampNeg; omega)))))
        · rw [e, show wIx false (mpL.getD 11 0) 0 = 3 from by decide +kernel]; show (a_37 26 2).toInt = _; rw [((show a_37 26 2 = a_35 26 2 from kn7_u2 ea_37 rfl).trans ((show a_35 26 2 = a_30 26 2 from kn7_u2 ea_35 rfl).trans ((show a_30 26 2 = a_27 26 2 from kn7_u2 ea_30 rfl).trans ((show a_27 26 2 = a_25 26 2 from kn7_u2 ea_27 rfl).trans ((show a_25 26 2 = a_21 26 2 from kn7_u2 ea_25 rfl).trans ((show a_21 26 2 = a_17 26 2 from kn7_u2 ea_21 rfl).trans ((show a_17 26 2 = a_11 26 2 from kn7_u2 ea_17 rfl).trans (show a_11 26 2 = pt from by rw [← ea_11]; exact (pk_us (f := a_10 26) (k := 2) (x := pt))))))))))]; exact rfl
        · rw [e, show wIx false (mpL.getD 12 0) 0 = 4 from by decide +kernel]; show (a_37 26 3).toInt = _; rw [((show a_37 26 3 = a_35 26 3 from kn7_u2 ea_37 rfl).trans ((show a_35 26 3 = a_30 26 3 from kn7_u2 ea_35 rfl).trans ((show a_30 26 3 = a_27 26 3 from kn7_u2 ea_30 rfl).trans ((show a_27 26 3 = a_25 26 3 from kn7_u2 ea_27 rfl).trans ((show a_25 26 3 = a_21 26 3 from kn7_u2 ea_25 rfl).trans ((show a_21 26 3 = a_17 26 3 from kn7_u2 ea_21 rfl).trans (show a_17 26 3 = 0 from by rw [← ea_17]; exact (pk_us (f := a_11 26) (k := 3) (x := 0)))))))))]; exact (show (0 : Int32).toInt = (crB (a 2) bd.toNatClampNeg pt.toNatClampNeg).toInt from by rw [show crB (a 2) bd.toNatClampNeg pt.toNatClampNeg = 0 from (and1 _).resolve_right (bit_n (show v13 = (if crB (a 2) bd.toNatClampNeg pt.toNatClampNeg = 1 then 1 else 0) from by have w9 := hw12.2; rw [show a_11 2 = a 2 from (((show a_11 2 = a_10 2 from by rw [← ea_11]; rfl).trans (show a_10 2 = a_5 2 from by rw [← ea_10]; rfl)).trans (show a_5 2 = a 2 from by rw [← ea_5]; rfl))] at w9; exact w9) c15)])
        · rw [e, show wIx false (mpL.getD 13 0) 0 = 5 from by decide +kernel]; show (a_37 26 4).toInt = _; rw [((show a_37 26 4 = a_35 26 4 from kn7_u2 ea_37 rfl).trans ((show a_35 26 4 = a_30 26 4 from kn7_u2 ea_35 rfl).trans ((show a_30 26 4 = a_27 26 4 from kn7_u2 ea_30 rfl).trans ((show a_27 26 4 = a_25 26 4 from kn7_u2 ea_27 rfl).trans ((show a_25 26 4 = a_21 26 4 from kn7_u2 ea_25 rfl).trans (show a_21 26 4 = t20 from by rw [← ea_21]; exact (pk_us (f := a_17 26) (k := 4) (x := t20))))))))]; exact (congrArg Int32.toInt (show t20 = a 2 (53 + pt.toNatClampNeg) from (et20).trans ((congrFun (show a_17 2 = a 2 from ((((show a_17 2 = a_11 2 from by rw [← ea_17]; rfl).trans (show a_11 2 = a_10 2 from by rw [← ea_11]; rfl)).trans (show a_10 2 = a_5 2 from by rw [← ea_10]; rfl)).trans (show a_5 2 = a 2 from by rw [← ea_5]; rfl))) _).trans (congrArg (a 2) (show t18.toNatClampNeg = _ from by have w1 := qt18; have w2 := (bpt).1; unfold Int32.toNatClampNeg; omega)))))
        · rw [e, show wIx false (mpL.getD 14 0) 0 = 7 from by decide +kernel]; show (a_37 26 5).toInt = _; rw [((show a_37 26 5 = a_35 26 5 from kn7_u2 ea_37 rfl).trans ((show a_35 26 5 = a_30 26 5 from kn7_u2 ea_35 rfl).trans ((show a_30 26 5 = a_27 26 5 from kn7_u2 ea_30 rfl).trans ((show a_27 26 5 = a_25 26 5 from kn7_u2 ea_27 rfl).trans (show a_25 26 5 = v23 from by rw [← ea_25]; exact (pk_us (f := a_21 26) (k := 5) (x := v23)))))))]; exact (by have w9 := hw22.2; rw [show a_21 2 = a 2 from (((((show a_21 2 = a_17 2 from by rw [← ea_21]; rfl).trans (show a_17 2 = a_11 2 from by rw [← ea_17]; rfl)).trans (show a_11 2 = a_10 2 from by rw [← ea_11]; rfl)).trans (show a_10 2 = a_5 2 from by rw [← ea_10]; rfl)).trans (show a_5 2 = a 2 from by rw [← ea_5]; rfl))] at w9; exact w9)
        · rw [e, show wIx false (mpL.getD 15 0) 0 = 9 from by decide +kernel]; show (a_37 26 6).toInt = _; rw [((show a_37 26 6 = a_35 26 6 from kn7_u2 ea_37 rfl).trans ((show a_35 26 6 = a_30 26 6 from kn7_u2 ea_35 rfl).trans ((show a_30 26 6 = a_27 26 6 from kn7_u2 ea_30 rfl).trans (show a_27 26 6 = t26 from by rw [← ea_27]; exact (pk_us (f := a_25 26) (k := 6) (x := t26))))))]; exact (congrArg Int32.toInt (et26.trans (congrFun (show a_25 2 = a 2 from ((((((show a_25 2 = a_21 2 from by rw [← ea_25]; rfl).trans (show a_21 2 = a_17 2 from by rw [← ea_21]; rfl)).trans (show a_17 2 = a_11 2 from by rw [← ea_17]; rfl)).trans (show a_11 2 = a_10 2 from by rw [← ea_11]; rfl)).trans (show a_10 2 = a_5 2 from by rw [← ea_10]; rfl)).trans (show a_5 2 = a 2 from by rw [← ea_5]; rfl))) 101)))
        · rw [e, show wIx false (mpL.getD 16 0) 0 = 6 from by decide +kernel]; show (a_37 26 7).toInt = _; rw [((show a_37 26 7 = a_35 26 7 from kn7_u2 ea_37 rfl).trans ((show a_35 26 7 = a_30 26 7 from kn7_u2 ea_35 rfl).trans (show a_30 26 7 = t28 from by rw [← ea_30]; exact (pk_us (f := a_27 26) (k := 7) (x := t28)))))]; exact (congrArg Int32.toInt (show t28 = a 2 (0 + pt.toNatClampNeg) from (et28).trans ((congrFun (show a_27 2 = a 2 from (((((((show a_27 2 = a_25 2 from by rw [← ea_27]; rfl).trans (show a_25 2 = a_21 2 from by rw [← ea_25]; rfl)).trans (show a_21 2 = a_17 2 from by rw [← ea_21]; rfl)).trans (show a_17 2 = a_11 2 from by rw [← ea_17]; rfl)).trans (show a_11 2 = a_10 2 from by rw [← ea_11]; rfl)).trans (show a_10 2 = a_5 2 from by rw [← ea_10]; rfl)).trans (show a_5 2 = a 2 from by rw [← ea_5]; rfl))) _).trans (congrArg (a 2) (Nat.zero_add _).symm))))
        · rw [e, show wIx false (mpL.getD 17 0) 0 = 2 from by decide +kernel]; show (a_37 26 8).toInt = _; rw [((show a_37 26 8 = a_35 26 8 from kn7_u2 ea_37 rfl).trans (show a_35 26 8 = t33 from by rw [← ea_35]; exact (pk_us (f := a_30 26) (k := 8) (x := t33))))]; exact (congrArg Int32.toInt (show t33 = a 2 (10 + bd.toNatClampNeg) from (et33).trans ((congrFun (show a_30 2 = a 2 from ((((((((show a_30 2 = a_27 2 from by rw [← ea_30]; rfl).trans (show a_27 2 = a_25 2 from by rw [← ea_27]; rfl)).trans (show a_25 2 = a_21 2 from by rw [← ea_25]; rfl)).trans (show a_21 2 = a_17 2 from by rw [← ea_21]; rfl)).trans (show a_17 2 = a_11 2 from by rw [← ea_17]; rfl)).trans (show a_11 2 = a_10 2 from by rw [← ea_11]; rfl)).trans (show a_10 2 = a_5 2 from by rw [← ea_10]; rfl)).trans (show a_5 2 = a 2 from by rw [← ea_5]; rfl))) _).trans (congrArg (a 2) (show t31.toNatClampNeg = _ from by have w1 := qt31; have w2 := (bbd).1; unfold Int32.toNatClampNeg; omega)))))
        · rw [e, show wIx false (mpL.getD 18 0) 0 = 8 from by decide +kernel]; show (a_37 26 9).toInt = _; rw [(show a_37 26 9 = t36 from by rw [← ea_37]; exact (pk_us (f := a_35 26) (k := 9) (x := t36)))]; exact (congrArg Int32.toInt (et36.trans (congrFun (show a_35 2 = a 2 from (((((((((show a_35 2 = a_30 2 from by rw [← ea_35]; rfl).trans (show a_30 2 = a_27 2 from by rw [← ea_30]; rfl)).trans (show a_27 2 = a_25 2 from by rw [← ea_27]; rfl)).trans (show a_25 2 = a_21 2 from by rw [← ea_25]; rfl)).trans (show a_21 2 = a_17 2 from by rw [← ea_21]; rfl)).trans (show a_17 2 = a_11 2 from by rw [← ea_17]; rfl)).trans (show a_11 2 = a_10 2 from by rw [← ea_11]; rfl)).trans (show a_10 2 = a_5 2 from by rw [← ea_10]; rfl)).trans (show a_5 2 = a 2 from by rw [← ea_5]; rfl))) 22)))
      have hwb : wB (lwW (a 2) bd pt) := lwW_b hp0 bbd bpt
      have hp3 : ∀ F, wQ false (lwW (a 2) bd pt) F a_37 := fun F => ⟨hwb, fun _ => hlw, fun q => absurd q (by decide)⟩
      have lp53 : ∀ (n54 : Nat) (i : Nat) (cc : Nat) (F52 : Nat → Int32) (H : Heap) (locs : List Loc) (ls : Array Slot) (y51 : Int64), ((DD (a 2 106).toInt.toNat).1 < cc + n54) → (mI F52 a_37) → (mE (XR []) f a F52 a_37) → (mZ [22, 23, 24, 25] [26] f a F52 a_37) → (eS F52 a_37 t false) → (kbl 0 y51 20) → ((F52 22).toInt = 400 * (t : Int) + (i : Int)) → ((cc < (DD (a 2 106).toInt.toNat).1 ∧ i = (DD (a 2 106).toInt.toNat).2.1 cc) ∨ (cc = (DD (a 2 106).toInt.toNat).1 ∧ S ≤ i)) → (y51.toInt = lastOf (clT (DD (a 2 106).toInt.toNat) (kHd (hd.toInt.toNat - 1)) (lwW (a 2) bd pt) hi.toInt) wo.toInt cc) → (cc ≤ (DD (a 2 106).toInt.toNat).1) → va_P D vwCl (mW K o r F52 a_37 g) H → va_D A (mW K o r F52 a_37 g) → va_S A s.heap H locs → lv_has ls 13 [(6, .long y51), (0, .ref o), (1, .int hd), (2, .int bd), (3, .int pt), (4, .int hi), (5, .int wo)] → W p l e (rmD 48 0 0) s m ([.ref o, .int hd, .int bd, .int pt, .int hi, .int wo] : List Value).toArray below meth c H locs 0 0 (kQi D (tysK K) (fun v (u : mS) => kb 0 v 20 ∧ mI u.1 u.2.1 ∧ mE (XR []) f a u.1 u.2.1 ∧ v.toInt = tlF DD (a 2) (hd.toInt.toNat - 1) bd pt hi.toInt wo.toInt ∧ mZ [22, 23, 24, 25] [26] f a u.1 u.2.1) (fun u => mW K o r u.1 u.2.1 u.2.2) A below ([.ref o, .int hd, .int bd, .int pt, .int hi, .int wo] : List Value).toArray s 0 0) (F0 m 198 ls []) := by
        intro n54
        induction n54 with
        | zero =>
          intro i cc F52  H locs ls y51 hmlp53 hI hE hZ hk0 b55 hvlp53_0 hvlp53_1 hvlp53_2 hvlp53_3 hP hD hS hl
          exact (by have h1 := hmlp53; have h2 := hvlp53_3; omega : False).elim
        | succ n54 ihlp53 =>
          intro i cc F52  H locs ls y51 hmlp53 hI hE hZ hk0 b55 hvlp53_0 hvlp53_1 hvlp53_2 hvlp53_3 hP hD hS hl
          obtain ⟨gv56, egv56⟩ : ∃ z : Int32, z = F52 22 := ⟨_, rfl⟩
          have hg57 : gv56.toInt = 400 * (t : Int) + ((i : Nat) : Int) := by rw [egv56]; exact hvlp53_0
          have hcln := hvlp53_3
          have htd := hvlp53_2
          rcases hvlp53_1 with hcs | hcs
          · obtain ⟨jj, hcl, hnx⟩ := hTx.2.2.2 cc hcs.1
            rw [← hcs.2] at hcl
            obtain ⟨hhd, hcl⟩ := hcl
            rw [if_neg (by decide)] at hcl
            obtain ⟨-, -, hcl⟩ := hcl
            have hjS : jj ≤ S := by rcases hnx with ⟨_, w1, _⟩ | ⟨_, w1⟩; (have w2 := mC_lS hk0 (ne_0 (tq_y hp2 (x := 159) (y := 3059) (by decide +kernel) (by decide +kernel) w1) (by decide +kernel)); omega); omega
            rcases hcl with ⟨h1 | h1 | h1, mm, hs, hif⟩ | ⟨h1, hb1, hif⟩
            · have b58 : kb 0 gv56 2799 := kb_go hk0 (mC_lt hk0 (ne_0 (tq_y hp2 (x := 1) (y := 2004) (by decide +kernel) (by decide +kernel) h1) (by decide +kernel))) hg57
              have hhk : (DD (a 2 106).toInt.toNat).2.2.1 cc = kHd 0 := hhd.trans (h1.trans (by decide +kernel))
              rcases hif with ⟨h2, h3⟩ | ⟨h2, hj, hv3⟩
              · refine lv_aload_n hx hb dX12_tells_198 rfl (lv_at hl 1 rfl) ?_
                refine va_get (D := D) (ci := 12) (v := .int (F52 22)) (C := RX12) (T := TX12) (N := 48) hx hb hg inC12 hown hK hP 0 rfl rfl 22 (by decide) (hg _ wt5_182) (fun _ h9 => h9) rfl dX12_tells_199 ?_
                refine k_top (z := gv56) egv56.symm ?_
                refine lv_aload_n hx hb dX12_tells_202 rfl (lv_at hl 1 rfl) ?_
                refine va_get (D := D) (ci := 12) (v := .int (F52 23)) (C := RX12) (T := TX12) (N := 48) hx hb hg inC12 hown hK hP 0 rfl rfl 23 (by decide) (hg _ wt5_183) (fun _ h9 => h9) rfl dX12_tells_203 ?_
                refine lv_topi (fun t59 et59 => ?_)
                refine lv_icmp_ge (tgt := 351) hx hb dX12_tells_206 (by decide) (fun c60 => ?_) (fun c60 => ?_)
                · exact absurd (kc_le c60) (by have w1 := congrArg Int32.toInt et59.symm; have w2 := hk0.2.1; have w3 := hg57; have w4 := mC_lS hk0 (ne_0 (tq_y hp2 (x := 1) (y := 2004) (by decide +kernel) (by decide +kernel) h1) (by decide +kernel)); omega)
                · have h61 := (kc_nle c60)
                  have b62 : kb 1 t59 2147483647 := kr_lt2 h61 b58 (kb_any t59) (by decide)
                  refine lv_aload_n hx hb dX12_tells_209 rfl (lv_at hl 1 rfl) ?_
                  refine lv_aload_n hx hb dX12_tells_210 rfl (lv_at hl 1 rfl) ?_
                  refine va_get (D := D) (ci := 12) (v := .int (F52 22)) (C := RX12) (T := TX12) (N := 48) hx hb hg inC12 hown hK hP 0 rfl rfl 22 (by decide) (hg _ wt5_182) (fun _ h9 => h9) rfl dX12_tells_211 ?_
                  refine k_top (z := gv56) egv56.symm ?_
                  refine kI.callV (As := [.int gv56]) (rest := []) ⟨hx, hb, hml, hown, hg⟩ (m_codeAt l o r F52 a_37 g hI gv56  t (i) false hk0 hg57) (cwV 1 hg (kgV wt7_47 wt7_49 wp5_8 wt1_14 wt7_50) rfl rfl rfl (by decide +kernel) ⟨by decide, by decide⟩) hK hP hD hS hA mIs [] rfl (wr := []) rfl rfl rfl (fun i h => by cases h) 0 12 rfl rfl rfl hl.1 rfl (Nat.le_of_ble_eq_true rfl) dX12_tells_214 ⟨Nat.le_refl _, Nat.le_refl _⟩ (fun v64 u65 H locs hw63 hP hD hS => ?_)
                  have hP : va_P D vwCl (mW K o r F52 a_37 g) H := hP
                  have hD : va_D A (mW K o r F52 a_37 g) := hD
                  refine k_top (z := 1) (hw63.2.trans (tq_y hp2 (x := 1) (y := 2004) (by decide +kernel) (by decide +kernel) h1)) ?_
                  refine lv_istore (lv' := [(8, .int 1), (6, .long y51), (0, .ref o), (1, .int hd), (2, .int bd), (3, .int pt), (4, .int hi), (5, .int wo)]) hx hb dX12_tells_217 hl (by decide) rfl (fun ls hl => ?_)
                  refine lv_aload_n hx hb dX12_tells_219 rfl (lv_at hl 2 rfl) ?_
                  refine lv_iconst (v := 0) hx hb dX12_tells_220 (by decide) ?_
                  refine va_put (D := D) (ci := 12) (v := .int 0) (ty := .boolean) (C := RX12) (T := TX12) (N := 48) hx hb hg inC12 tyX12 tyX12_ok nmX12 hown hK hP hD hS 0 rfl rfl 24 (by decide) (hg _ wt5_184) (fun _ h9 => h9) rfl (by decide +kernel) rfl rfl (Nat.le_of_ble_eq_true rfl) dX12_tells_221 (fun H locs hP hD hS => ?_)
                  have hP : va_P D vwCl (mW K o r (upd F52 24 0) a_37 g) H := hP
                  have hD : va_D A (mW K o r (upd F52 24 0) a_37 g) := hD
                  refine k_gen (P := fun z => va_P D vwCl (mW K o r z a_37 g) H ∧ va_D A (mW K o r z a_37 g) ∧ (mI z a_37) ∧ (mE (XR []) f a z a_37) ∧ (mZ [22, 23, 24, 25] [26] f a z a_37) ∧ (eS z a_37 t false)) (upd F52 24 0) ⟨hP, hD, (mI_f hI (fI_st hI.1 24 kc_0 (by decide) (by decide))), (mE_f hE (by decide)), (mZ_f hZ rfl), (eS_f hk0 (by decide) (by decide))⟩ (fun f_66 ef_66 hq => ?_)
                  obtain ⟨hP, hD, hI, hE, hZ, hk0⟩ := hq
                  refine lv_aload_n hx hb dX12_tells_224 rfl (lv_at hl 2 rfl) ?_
                  refine lv_dup hx hb dX12_tells_225 rfl ?_
                  refine va_get (D := D) (ci := 12) (v := .int (f_66 22)) (C := RX12) (T := TX12) (N := 48) hx hb hg inC12 hown hK hP 0 rfl rfl 22 (by decide) (hg _ wt5_182) (fun _ h9 => h9) rfl dX12_tells_226 ?_
                  refine k_top (z := gv56) ((show f_66 22 = F52 22 from kn7_u1 ef_66 rfl).trans egv56.symm) ?_
                  refine lv_iconst (v := 1) hx hb dX12_tells_229 (by decide) ?_
                  refine lv_iadd hx hb dX12_tells_230 ?_
                  refine lv_topi (fun t67 et67 => ?_)
                  have b68 : kb 1 t67 2800 := kb_eq et67 (kb_add b58 kc_1 (by decide) (by decide))
                  have qt67 : t67.toInt = gv56.toInt + 1 := by rw [et67]; exact kt_addc b58 kc_1 (by decide) (by decide)
                  have hg69 : t67.toInt = 400 * (t : Int) + ((i + 1 : Nat) : Int) := by first | exact kn7_go qt67 hg57 | (rw [qt67, hg57]; omega)
                  refine va_put (D := D) (ci := 12) (v := .int t67) (ty := .int) (C := RX12) (T := TX12) (N := 48) hx hb hg inC12 tyX12 tyX12_ok nmX12 hown hK hP hD hS 0 rfl rfl 22 (by decide) (hg _ wt5_182) (fun _ h9 => h9) rfl (by decide +kernel) rfl rfl (Nat.le_of_ble_eq_true rfl) dX12_tells_231 (fun H locs hP hD hS => ?_)
                  have hP : va_P D vwCl (mW K o r (upd f_66 22 t67) a_37 g) H := hP
                  have hD : va_D A (mW K o r (upd f_66 22 t67) a_37 g) := hD
                  refine k_gen (P := fun z => va_P D vwCl (mW K o r z a_37 g) H ∧ va_D A (mW K o r z a_37 g) ∧ (mI z a_37) ∧ (mE (XR []) f a z a_37) ∧ (mZ [22, 23, 24, 25] [26] f a z a_37) ∧ (eS z a_37 t false)) (upd f_66 22 t67) ⟨hP, hD, (mI_f hI (fI_st hI.1 22 (kb_any _) (by decide) (by decide))), (mE_f hE (by decide)), (mZ_f hZ rfl), (eS_f hk0 (by decide) (by decide))⟩ (fun f_70 ef_70 hq => ?_)
                  obtain ⟨hP, hD, hI, hE, hZ, hk0⟩ := hq
                  refine lv_iload hx hb dX12_tells_234 (lv_at hl 0 rfl) ?_
                  refine lv_iconst (v := 4) hx hb dX12_tells_236 (by decide) ?_
                  refine lv_icmp_ne (tgt := 244) hx hb dX12_tells_237 (by decide) (fun c71 => ?_) (fun c71 => ?_)
                  · refine lv_aload_n hx hb dX12_tells_244 rfl (lv_at hl 2 rfl) ?_
                    refine lv_iconst (v := 1) hx hb dX12_tells_245 (by decide) ?_
                    refine kL.callV (As := [.int 1]) (rest := []) ⟨hx, hb, hml, hown, hg⟩ ((n_allSum 8) l o r f_70 a_37 g hI 1 (kb_w kc_1 (by decide) (by decide)) t (i + 1) (mm) false T (lwW (a 2) bd pt) ((DD (a 2 106).toInt.toNat).2.2.2.2.1 cc) hk0 (by rw [(show f_70 22 = t67 from kn7_u1 ef_70 rfl)]; exact hg69) hp2 (hp3 f_70) hs) (cwV 1 hg (kgV wt7_51 wt7_53 wp5_9 wt1_14 wt7_54) rfl rfl rfl (by decide +kernel) ⟨by decide, by decide⟩) hK hP hD hS hA mIs [] rfl (wr := []) rfl rfl rfl (fun i h => by cases h) 0 12 rfl rfl rfl hl.1 rfl (Nat.le_of_ble_eq_true rfl) dX12_tells_246 ⟨Nat.le_refl _, Nat.le_refl _⟩ (fun v73 u74 H locs hw72 hP hD hS => ?_)
                    have hP : va_P D vwCl (mW K o r u74 a_37 g) H := hP
                    have hD : va_D A (mW K o r u74 a_37 g) := hD
                    have hI : mI u74 a_37 := hw72.2.1
                    have eE75 : fE [22, 24] f_70 u74 := hw72.2.2.1
                    have hE : mE (XR []) f a u74 a_37 := mE_fE hE eE75 (by decide)
                    have hZ : mZ [22, 23, 24, 25] [26] f a u74 a_37 := mZ_fE hZ (fE_w (by decide) eE75)
                    have hk0 : eS u74 a_37 t false := eS_fE eE75 hk0 (by decide) (by decide)
                    obtain ⟨gv76, egv76⟩ : ∃ z : Int32, z = u74 22 := ⟨_, rfl⟩
                    have hg77 : gv76.toInt = 400 * (t : Int) + ((mm : Nat) : Int) := by rw [egv76]; exact hw72.2.2.2.1
                    have b78 : kb 0 gv76 2799 := kb_go hk0 (mC_lt hk0 (ne_0 (tq_y hp2 (x := 5) (y := 2003) (by decide +kernel) (by decide +kernel) h2) (by decide +kernel))) hg77
                    obtain ⟨bq79, ebq79⟩ : ∃ z : Int32, z = u74 24 := ⟨_, rfl⟩
                    have b80 : kb 0 bq79 1 := kb_eq ebq79 (fI_at hI.1 24 (by decide) (by decide))
                    have hr81 : mRs 1 0 (((DD (a 2 106).toInt.toNat).2.2.2.2.1 cc) (lwW (a 2) bd pt)) bq79 v73.toInt := by have w1 := hw72.2.2.2.2; rw [((show f_70 24 = f_66 24 from kn7_u1 ef_70 rfl).trans (show f_66 24 = 0 from kn7_u1 ef_66 rfl)), ← ebq79] at w1; exact w1
                    refine lv_lstore (lv' := [(9, .long v73), (8, .int 1), (6, .long y51), (0, .ref o), (1, .int hd), (2, .int bd), (3, .int pt), (4, .int hi), (5, .int wo)]) hx hb dX12_tells_249 hl (by decide) rfl (fun ls hl => ?_)
                    refine lv_aload_n hx hb dX12_tells_251 rfl (lv_at hl 3 rfl) ?_
                    refine va_get (D := D) (ci := 12) (v := .int (u74 24)) (C := RX12) (T := TX12) (N := 48) hx hb hg inC12 hown hK hP 0 rfl rfl 24 (by decide) (hg _ wt5_184) (fun _ h9 => h9) rfl dX12_tells_252 ?_
                    refine k_top (z := bq79) ebq79.symm ?_
                    refine lv_istore (lv' := [(11, .int bq79), (9, .long v73), (8, .int 1), (6, .long y51), (0, .ref o), (1, .int hd), (2, .int bd), (3, .int pt), (4, .int hi), (5, .int wo)]) hx hb dX12_tells_255 hl (by decide) rfl (fun ls hl => ?_)
                    refine lv_aload_n hx hb dX12_tells_257 rfl (lv_at hl 4 rfl) ?_
                    refine lv_iconst (v := 0) hx hb dX12_tells_258 (by decide) ?_
                    refine va_put (D := D) (ci := 12) (v := .int 0) (ty := .boolean) (C := RX12) (T := TX12) (N := 48) hx hb hg inC12 tyX12 tyX12_ok nmX12 hown hK hP hD hS 0 rfl rfl 24 (by decide) (hg _ wt5_184) (fun _ h9 => h9) rfl (by decide +kernel) rfl rfl (Nat.le_of_ble_eq_true rfl) dX12_tells_259 (fun H locs hP hD hS => ?_)
                    have hP : va_P D vwCl (mW K o r (upd u74 24 0) a_37 g) H := hP
                    have hD : va_D A (mW K o r (upd u74 24 0) a_37 g) := hD
                    refine k_gen (P := fun z => va_P D vwCl (mW K o r z a_37 g) H ∧ va_D A (mW K o r z a_37 g) ∧ (mI z a_37) ∧ (mE (XR []) f a z a_37) ∧ (mZ [22, 23, 24, 25] [26] f a z a_37) ∧ (eS z a_37 t false)) (upd u74 24 0) ⟨hP, hD, (mI_f hI (fI_st hI.1 24 kc_0 (by decide) (by decide))), (mE_f hE (by decide)), (mZ_f hZ rfl), (eS_f hk0 (by decide) (by decide))⟩ (fun f_82 ef_82 hq => ?_)
                    obtain ⟨hP, hD, hI, hE, hZ, hk0⟩ := hq
                    refine lv_aload_n hx hb dX12_tells_262 rfl (lv_at hl 4 rfl) ?_
                    refine lv_iconst (v := 5) hx hb dX12_tells_263 (by decide) ?_
                    refine kI.callV (As := [.int 5]) (rest := []) ⟨hx, hb, hml, hown, hg⟩ (m_passes0 l o r f_82 a_37 g hI 5 (kb_w kc_5 (by decide) (by decide)) t (mm) false hk0 (by rw [((show f_82 22 = u74 22 from kn7_u1 ef_82 rfl).trans egv76.symm)]; exact hg77)) (cwV 1 hg (kgV wt7_63 wt7_65 wp5_12 wt1_14 wt7_66) rfl rfl rfl (by decide +kernel) ⟨by decide, by decide⟩) hK hP hD hS hA mIs [] rfl (wr := []) rfl rfl rfl (fun i h => by cases h) 0 12 rfl rfl rfl hl.1 rfl (Nat.le_of_ble_eq_true rfl) dX12_tells_264 ⟨Nat.le_refl _, Nat.le_refl _⟩ (fun v84 u85 H locs hw83 hP hD hS => ?_)
                    have hP : va_P D vwCl (mW K o r u85 a_37 g) H := hP
                    have hD : va_D A (mW K o r u85 a_37 g) := hD
                    have hI : mI u85 a_37 := hw83.2.1
                    have eE86 : fE [22] f_82 u85 := hw83.2.2.1
                    have hE : mE (XR []) f a u85 a_37 := mE_fE hE eE86 (by decide)
                    have hZ : mZ [22, 23, 24, 25] [26] f a u85 a_37 := mZ_fE hZ (fE_w (by decide) eE86)
                    have hk0 : eS u85 a_37 t false := eS_fE eE86 hk0 (by decide) (by decide)
                    have hz87 := pass_y hw83.2.2.2 (tq_y hp2 (x := 5) (y := 2003) (by decide +kernel) (by decide +kernel) h2)
                    refine k_top (z := 1) hz87.1 ?_
                    obtain ⟨gv88, egv88⟩ : ∃ z : Int32, z = u85 22 := ⟨_, rfl⟩
                    have hg89 : gv88.toInt = 400 * (t : Int) + ((mm + 1 : Nat) : Int) := by rw [egv88]; exact hz87.2
                    refine lv_if_eq (tgt := 278) hx hb dX12_tells_267 (by decide) (fun c90 => ?_) (fun c90 => ?_)
                    · exact kb_dj c90 kc_1 kc_0 (by decide)
                    · refine lv_aload_n hx hb dX12_tells_270 rfl (lv_at hl 4 rfl) ?_
                      refine lv_iconst (v := 1) hx hb dX12_tells_271 (by decide) ?_
                      refine kI.callV (As := [.int 1]) (rest := []) ⟨hx, hb, hml, hown, hg⟩ ((n_allTest 8) l o r u85 a_37 g hI 1 (kb_w kc_1 (by decide) (by decide)) t (mm + 1) (jj) false T (lwW (a 2) bd pt) ((DD (a 2 106).toInt.toNat).2.2.2.2.2.2 cc) hk0 (by rw [egv88.symm]; exact hg89) hp2 (hp3 u85) h3) (cwV 1 hg (kgV wt7_80 wt7_82 wp5_15 wt1_14 wt7_83) rfl rfl rfl (by decide +kernel) ⟨by decide, by decide⟩) hK hP hD hS hA mIs [] rfl (wr := []) rfl rfl rfl (fun i h => by cases h) 0 12 rfl rfl rfl hl.1 rfl (Nat.le_of_ble_eq_true rfl) dX12_tells_272 ⟨Nat.le_refl _, Nat.le_refl _⟩ (fun v92 u93 H locs hw91 hP hD hS => ?_)
                      have hP : va_P D vwCl (mW K o r u93 a_37 g) H := hP
                      have hD : va_D A (mW K o r u93 a_37 g) := hD
                      have hI : mI u93 a_37 := hw91.2.1
                      have eE94 : fE [22, 24] u85 u93 := hw91.2.2.1
                      have hE : mE (XR []) f a u93 a_37 := mE_fE hE eE94 (by decide)
                      have hZ : mZ [22, 23, 24, 25] [26] f a u93 a_37 := mZ_fE hZ (fE_w (by decide) eE94)
                      have hk0 : eS u93 a_37 t false := eS_fE eE94 hk0 (by decide) (by decide)
                      obtain ⟨gv95, egv95⟩ : ∃ z : Int32, z = u93 22 := ⟨_, rfl⟩
                      have hg96 : gv95.toInt = 400 * (t : Int) + ((jj : Nat) : Int) := by rw [egv95]; exact hw91.2.2.2.1
                      have b97 : kb 0 gv95 2801 := kb_go1 hk0 (by have w1 := hk0.2.2.2.2; omega) hg96
                      obtain ⟨bq98, ebq98⟩ : ∃ z : Int32, z = u93 24 := ⟨_, rfl⟩
                      have b99 : kb 0 bq98 1 := kb_eq ebq98 (fI_at hI.1 24 (by decide) (by decide))
                      have hr100 : mTv 1 0 (((DD (a 2 106).toInt.toNat).2.2.2.2.2.2 cc) (lwW (a 2) bd pt)) bq98 v92 := by have w1 := hw91.2.2.2.2; rw [((eE86 24 (by decide)).trans (show f_82 24 = 0 from kn7_u1 ef_82 rfl)), ← ebq98] at w1; exact w1
                      refine lv_if_eq (tgt := 282) hx hb dX12_tells_275 (by decide) (fun c101 => ?_) (fun c101 => ?_)
                      · have b102 : kb 0 v92 0 := kb_eq c101 kc_0
                        refine lv_iconst (v := 0) hx hb dX12_tells_282 (by decide) ?_
                        refine lv_istore (lv' := [(12, .int 0), (11, .int bq79), (9, .long v73), (8, .int 1), (6, .long y51), (0, .ref o), (1, .int hd), (2, .int bd), (3, .int pt), (4, .int hi), (5, .int wo)]) hx hb dX12_tells_283 hl (by decide) rfl (fun ls hl => ?_)
                        refine lv_iload hx hb dX12_tells_285 (lv_at hl 3 rfl) ?_
                        refine lv_iload_n hx hb dX12_tells_287 rfl (lv_at hl 6 rfl) ?_
                        refine lv_icmp_ne (tgt := 338) hx hb dX12_tells_288 (by decide) (fun c103 => ?_) (fun c103 => ?_)
                        · refine lv_aload_n hx hb dX12_tells_338 rfl (lv_at hl 5 rfl) ?_
                          refine lv_dup hx hb dX12_tells_339 rfl ?_
                          refine va_get (D := D) (ci := 12) (v := .int (u93 22)) (C := RX12) (T := TX12) (N := 48) hx hb hg inC12 hown hK hP 0 rfl rfl 22 (by decide) (hg _ wt5_182) (fun _ h9 => h9) rfl dX12_tells_340 ?_
                          refine k_top (z := gv95) egv95.symm ?_
                          refine lv_iconst (v := 1) hx hb dX12_tells_343 (by decide) ?_
                          refine lv_iadd hx hb dX12_tells_344 ?_
                          refine lv_topi (fun t104 et104 => ?_)
                          have b105 : kb 1 t104 2802 := kb_eq et104 (kb_add b97 kc_1 (by decide) (by decide))
                          have qt104 : t104.toInt = gv95.toInt + 1 := by rw [et104]; exact kt_addc b97 kc_1 (by decide) (by decide)
                          have hg106 : t104.toInt = 400 * (t : Int) + ((jj + 1 : Nat) : Int) := by first | exact kn7_go qt104 hg96 | (rw [qt104, hg96]; omega)
                          refine va_put (D := D) (ci := 12) (v := .int t104) (ty := .int) (C := RX12) (T := TX12) (N := 48) hx hb hg inC12 tyX12 tyX12_ok nmX12 hown hK hP hD hS 0 rfl rfl 22 (by decide) (hg _ wt5_182) (fun _ h9 => h9) rfl (by decide +kernel) rfl rfl (Nat.le_of_ble_eq_true rfl) dX12_tells_345 (fun H locs hP hD hS => ?_)
                          have hP : va_P D vwCl (mW K o r (upd u93 22 t104) a_37 g) H := hP
                          have hD : va_D A (mW K o r (upd u93 22 t104) a_37 g) := hD
                          refine k_gen (P := fun z => va_P D vwCl (mW K o r z a_37 g) H ∧ va_D A (mW K o r z a_37 g) ∧ (mI z a_37) ∧ (mE (XR []) f a z a_37) ∧ (mZ [22, 23, 24, 25] [26] f a z a_37) ∧ (eS z a_37 t false)) (upd u93 22 t104) ⟨hP, hD, (mI_f hI (fI_st hI.1 22 (kb_any _) (by decide) (by decide))), (mE_f hE (by decide)), (mZ_f hZ rfl), (eS_f hk0 (by decide) (by decide))⟩ (fun f_107 ef_107 hq => ?_)
                          obtain ⟨hP, hD, hI, hE, hZ, hk0⟩ := hq
                          refine lv_goto (tgt := 198) hx hb dX12_tells_348 (by decide) ?_
                          exact ihlp53 (jj + 1) (cc + 1) f_107 _ _ _ y51 (by first | exact kn7_ml hmlp53 | (have w1 := hmlp53; omega)) hI hE hZ hk0 b55 (by rw [(show f_107 22 = t104 from kn7_u1 ef_107 rfl)]; exact hg106) (hnx.elim (fun q => Or.inl ⟨q.1, q.2.2.symm⟩) (fun q => Or.inr ⟨q.1, by first | exact kn7_sl q.2 | (have w1 := q.2; omega)⟩)) (by rw [lastOf_s, ct_n (fun q => c103 (Int32.toInt_inj.mp (by first | exact (kHd_j (hhk.symm.trans q) bhd).trans (by decide +kernel) | (have w1 := kHd_j (hhk.symm.trans q) bhd; have w2 : (1 : Int32).toInt = 1 := (by decide +kernel); omega))))]; exact htd) (by first | exact Nat.succ_le_of_lt hcs.1 | (have w1 := hcs.1; omega)) hP hD hS (lv_sub hl [4, 5, 6, 7, 8, 9, 10] rfl)
                        · have b108 : kb 1 hd 1 := kb_eq c103.symm kc_1
                          refine lv_iload hx hb dX12_tells_291 (lv_at hl 0 rfl) ?_
                          refine lv_if_eq (tgt := 338) hx hb dX12_tells_293 (by decide) (fun c109 => ?_) (fun c109 => ?_)
                          · refine lv_aload_n hx hb dX12_tells_338 rfl (lv_at hl 5 rfl) ?_
                            refine lv_dup hx hb dX12_tells_339 rfl ?_
                            refine va_get (D := D) (ci := 12) (v := .int (u93 22)) (C := RX12) (T := TX12) (N := 48) hx hb hg inC12 hown hK hP 0 rfl rfl 22 (by decide) (hg _ wt5_182) (fun _ h9 => h9) rfl dX12_tells_340 ?_
                            refine k_top (z := gv95) egv95.symm ?_
                            refine lv_iconst (v := 1) hx hb dX12_tells_343 (by decide) ?_
                            refine lv_iadd hx hb dX12_tells_344 ?_
                            refine lv_topi (fun t110 et110 => ?_)
                            have b111 : kb 1 t110 2802 := kb_eq et110 (kb_add b97 kc_1 (by decide) (by decide))
                            have qt110 : t110.toInt = gv95.toInt + 1 := by rw [et110]; exact kt_addc b97 kc_1 (by decide) (by decide)
                            have hg112 : t110.toInt = 400 * (t : Int) + ((jj + 1 : Nat) : Int) := by first | exact kn7_go qt110 hg96 | (rw [qt110, hg96]; omega)
                            refine va_put (D := D) (ci := 12) (v := .int t110) (ty := .int) (C := RX12) (T := TX12) (N := 48) hx hb hg inC12 tyX12 tyX12_ok nmX12 hown hK hP hD hS 0 rfl rfl 22 (by decide) (hg _ wt5_182) (fun _ h9 => h9) rfl (by decide +kernel) rfl rfl (Nat.le_of_ble_eq_true rfl) dX12_tells_345 (fun H locs hP hD hS => ?_)
                            have hP : va_P D vwCl (mW K o r (upd u93 22 t110) a_37 g) H := hP
                            have hD : va_D A (mW K o r (upd u93 22 t110) a_37 g) := hD
                            refine k_gen (P := fun z => va_P D vwCl (mW K o r z a_37 g) H ∧ va_D A (mW K o r z a_37 g) ∧ (mI z a_37) ∧ (mE (XR []) f a z a_37) ∧ (mZ [22, 23, 24, 25] [26] f a z a_37) ∧ (eS z a_37 t false)) (upd u93 22 t110) ⟨hP, hD, (mI_f hI (fI_st hI.1 22 (kb_any _) (by decide) (by decide))), (mE_f hE (by decide)), (mZ_f hZ rfl), (eS_f hk0 (by decide) (by decide))⟩ (fun f_113 ef_113 hq => ?_)
                            obtain ⟨hP, hD, hI, hE, hZ, hk0⟩ := hq
                            refine lv_goto (tgt := 198) hx hb dX12_tells_348 (by decide) ?_
                            exact ihlp53 (jj + 1) (cc + 1) f_113 _ _ _ y51 (by first | exact kn7_ml hmlp53 | (have w1 := hmlp53; omega)) hI hE hZ hk0 b55 (by rw [(show f_113 22 = t110 from kn7_u1 ef_113 rfl)]; exact hg112) (hnx.elim (fun q => Or.inl ⟨q.1, q.2.2.symm⟩) (fun q => Or.inr ⟨q.1, by first | exact kn7_sl q.2 | (have w1 := q.2; omega)⟩)) (by rw [lastOf_s, ct_t (mt_0 hr100 c101)]; exact htd) (by first | exact Nat.succ_le_of_lt hcs.1 | (have w1 := hcs.1; omega)) hP hD hS (lv_sub hl [4, 5, 6, 7, 8, 9, 10] rfl)
                          · exact kb_nsame c109 kc_0 kc_0
                      · have b114 : kb 1 v92 1 := kr_nel c101 hw91.1 kc_0 (by decide)
                        refine lv_iconst (v := 1) hx hb dX12_tells_278 (by decide) ?_
                        refine lv_goto (tgt := 283) hx hb dX12_tells_279 (by decide) ?_
                        refine lv_istore (lv' := [(12, .int 1), (11, .int bq79), (9, .long v73), (8, .int 1), (6, .long y51), (0, .ref o), (1, .int hd), (2, .int bd), (3, .int pt), (4, .int hi), (5, .int wo)]) hx hb dX12_tells_283 hl (by decide) rfl (fun ls hl => ?_)
                        refine lv_iload hx hb dX12_tells_285 (lv_at hl 3 rfl) ?_
                        refine lv_iload_n hx hb dX12_tells_287 rfl (lv_at hl 6 rfl) ?_
                        refine lv_icmp_ne (tgt := 338) hx hb dX12_tells_288 (by decide) (fun c115 => ?_) (fun c115 => ?_)
                        · refine lv_aload_n hx hb dX12_tells_338 rfl (lv_at hl 5 rfl) ?_
                          refine lv_dup hx hb dX12_tells_339 rfl ?_
                          refine va_get (D := D) (ci := 12) (v := .int (u93 22)) (C := RX12) (T := TX12) (N := 48) hx hb hg inC12 hown hK hP 0 rfl rfl 22 (by decide) (hg _ wt5_182) (fun _ h9 => h9) rfl dX12_tells_340 ?_
                          refine k_top (z := gv95) egv95.symm ?_
                          refine lv_iconst (v := 1) hx hb dX12_tells_343 (by decide) ?_
                          refine lv_iadd hx hb dX12_tells_344 ?_
                          refine lv_topi (fun t116 et116 => ?_)
                          have b117 : kb 1 t116 2802 := kb_eq et116 (kb_add b97 kc_1 (by decide) (by decide))
                          have qt116 : t116.toInt = gv95.toInt + 1 := by rw [et116]; exact kt_addc b97 kc_1 (by decide) (by decide)
                          have hg118 : t116.toInt = 400 * (t : Int) + ((jj + 1 : Nat) : Int) := by first | exact kn7_go qt116 hg96 | (rw [qt116, hg96]; omega)
                          refine va_put (D := D) (ci := 12) (v := .int t116) (ty := .int) (C := RX12) (T := TX12) (N := 48) hx hb hg inC12 tyX12 tyX12_ok nmX12 hown hK hP hD hS 0 rfl rfl 22 (by decide) (hg _ wt5_182) (fun _ h9 => h9) rfl (by decide +kernel) rfl rfl (Nat.le_of_ble_eq_true rfl) dX12_tells_345 (fun H locs hP hD hS => ?_)
                          have hP : va_P D vwCl (mW K o r (upd u93 22 t116) a_37 g) H := hP
                          have hD : va_D A (mW K o r (upd u93 22 t116) a_37 g) := hD
                          refine k_gen (P := fun z => va_P D vwCl (mW K o r z a_37 g) H ∧ va_D A (mW K o r z a_37 g) ∧ (mI z a_37) ∧ (mE (XR []) f a z a_37) ∧ (mZ [22, 23, 24, 25] [26] f a z a_37) ∧ (eS z a_37 t false)) (upd u93 22 t116) ⟨hP, hD, (mI_f hI (fI_st hI.1 22 (kb_any _) (by decide) (by decide))), (mE_f hE (by decide)), (mZ_f hZ rfl), (eS_f hk0 (by decide) (by decide))⟩ (fun f_119 ef_119 hq => ?_)
                          obtain ⟨hP, hD, hI, hE, hZ, hk0⟩ := hq
                          refine lv_goto (tgt := 198) hx hb dX12_tells_348 (by decide) ?_
                          exact ihlp53 (jj + 1) (cc + 1) f_119 _ _ _ y51 (by first | exact kn7_ml hmlp53 | (have w1 := hmlp53; omega)) hI hE hZ hk0 b55 (by rw [(show f_119 22 = t116 from kn7_u1 ef_119 rfl)]; exact hg118) (hnx.elim (fun q => Or.inl ⟨q.1, q.2.2.symm⟩) (fun q => Or.inr ⟨q.1, by first | exact kn7_sl q.2 | (have w1 := q.2; omega)⟩)) (by rw [lastOf_s, ct_n (fun q => c115 (Int32.toInt_inj.mp (by first | exact (kHd_j (hhk.symm.trans q) bhd).trans (by decide +kernel) | (have w1 := kHd_j (hhk.symm.trans q) bhd; have w2 : (1 : Int32).toInt = 1 := (by decide +kernel); omega))))]; exact htd) (by first | exact Nat.succ_le_of_lt hcs.1 | (have w1 := hcs.1; omega)) hP hD hS (lv_sub hl [4, 5, 6, 7, 8, 9, 10] rfl)
                        · have b120 : kb 1 hd 1 := kb_eq c115.symm kc_1
                          refine lv_iload hx hb dX12_tells_291 (lv_at hl 0 rfl) ?_
                          refine lv_if_eq (tgt := 338) hx hb dX12_tells_293 (by decide) (fun c121 => ?_) (fun c121 => ?_)
                          · exact kb_dj c121 kc_1 kc_0 (by decide)
                          · refine lv_aload_n hx hb dX12_tells_296 rfl (lv_at hl 5 rfl) ?_
                            refine va_get (D := D) (ci := 12) (v := .int (u93 24)) (C := RX12) (T := TX12) (N := 48) hx hb hg inC12 hown hK hP 0 rfl rfl 24 (by decide) (hg _ wt5_184) (fun _ h9 => h9) rfl dX12_tells_297 ?_
                            refine k_top (z := bq98) ebq98.symm ?_
                            refine lv_if_ne (tgt := 338) hx hb dX12_tells_300 (by decide) (fun c122 => ?_) (fun c122 => ?_)
                            · have b123 : kb 1 bq98 1 := kr_nel c122 b99 kc_0 (by decide)
                              refine lv_aload_n hx hb dX12_tells_338 rfl (lv_at hl 5 rfl) ?_
                              refine lv_dup hx hb dX12_tells_339 rfl ?_
                              refine va_get (D := D) (ci := 12) (v := .int (u93 22)) (C := RX12) (T := TX12) (N := 48) hx hb hg inC12 hown hK hP 0 rfl rfl 22 (by decide) (hg _ wt5_182) (fun _ h9 => h9) rfl dX12_tells_340 ?_
                              refine k_top (z := gv95) egv95.symm ?_
                              refine lv_iconst (v := 1) hx hb dX12_tells_343 (by decide) ?_
                              refine lv_iadd hx hb dX12_tells_344 ?_
                              refine lv_topi (fun t124 et124 => ?_)
                              have b125 : kb 1 t124 2802 := kb_eq et124 (kb_add b97 kc_1 (by decide) (by decide))
                              have qt124 : t124.toInt = gv95.toInt + 1 := by rw [et124]; exact kt_addc b97 kc_1 (by decide) (by decide)
                              have hg126 : t124.toInt = 400 * (t : Int) + ((jj + 1 : Nat) : Int) := by first | exact kn7_go qt124 hg96 | (rw [qt124, hg96]; omega)
                              refine va_put (D := D) (ci := 12) (v := .int t124) (ty := .int) (C := RX12) (T := TX12) (N := 48) hx hb hg inC12 tyX12 tyX12_ok nmX12 hown hK hP hD hS 0 rfl rfl 22 (by decide) (hg _ wt5_182) (fun _ h9 => h9) rfl (by decide +kernel) rfl rfl (Nat.le_of_ble_eq_true rfl) dX12_tells_345 (fun H locs hP hD hS => ?_)
                              have hP : va_P D vwCl (mW K o r (upd u93 22 t124) a_37 g) H := hP
                              have hD : va_D A (mW K o r (upd u93 22 t124) a_37 g) := hD
                              refine k_gen (P := fun z => va_P D vwCl (mW K o r z a_37 g) H ∧ va_D A (mW K o r z a_37 g) ∧ (mI z a_37) ∧ (mE (XR []) f a z a_37) ∧ (mZ [22, 23, 24, 25] [26] f a z a_37) ∧ (eS z a_37 t false)) (upd u93 22 t124) ⟨hP, hD, (mI_f hI (fI_st hI.1 22 (kb_any _) (by decide) (by decide))), (mE_f hE (by decide)), (mZ_f hZ rfl), (eS_f hk0 (by decide) (by decide))⟩ (fun f_127 ef_127 hq => ?_)
                              obtain ⟨hP, hD, hI, hE, hZ, hk0⟩ := hq
                              refine lv_goto (tgt := 198) hx hb dX12_tells_348 (by decide) ?_
                              exact ihlp53 (jj + 1) (cc + 1) f_127 _ _ _ y51 (by first | exact kn7_ml hmlp53 | (have w1 := hmlp53; omega)) hI hE hZ hk0 b55 (by rw [(show f_127 22 = t124 from kn7_u1 ef_127 rfl)]; exact hg126) (hnx.elim (fun q => Or.inl ⟨q.1, q.2.2.symm⟩) (fun q => Or.inr ⟨q.1, by first | exact kn7_sl q.2 | (have w1 := q.2; omega)⟩)) (by rw [lastOf_s, ct_t (mt_n hr100 c122)]; exact htd) (by first | exact Nat.succ_le_of_lt hcs.1 | (have w1 := hcs.1; omega)) hP hD hS (lv_sub hl [4, 5, 6, 7, 8, 9, 10] rfl)
                            · have b128 : kb 0 bq98 0 := kb_eq c122 kc_0
                              refine lv_iload hx hb dX12_tells_303 (lv_at hl 1 rfl) ?_
                              refine lv_if_ne (tgt := 338) hx hb dX12_tells_305 (by decide) (fun c129 => ?_) (fun c129 => ?_)
                              · have b130 : kb 1 bq79 1 := kr_nel c129 b80 kc_0 (by decide)
                                refine lv_aload_n hx hb dX12_tells_338 rfl (lv_at hl 5 rfl) ?_
                                refine lv_dup hx hb dX12_tells_339 rfl ?_
                                refine va_get (D := D) (ci := 12) (v := .int (u93 22)) (C := RX12) (T := TX12) (N := 48) hx hb hg inC12 hown hK hP 0 rfl rfl 22 (by decide) (hg _ wt5_182) (fun _ h9 => h9) rfl dX12_tells_340 ?_
                                refine k_top (z := gv95) egv95.symm ?_
                                refine lv_iconst (v := 1) hx hb dX12_tells_343 (by decide) ?_
                                refine lv_iadd hx hb dX12_tells_344 ?_
                                refine lv_topi (fun t131 et131 => ?_)
                                have b132 : kb 1 t131 2802 := kb_eq et131 (kb_add b97 kc_1 (by decide) (by decide))
                                have qt131 : t131.toInt = gv95.toInt + 1 := by rw [et131]; exact kt_addc b97 kc_1 (by decide) (by decide)
                                have hg133 : t131.toInt = 400 * (t : Int) + ((jj + 1 : Nat) : Int) := by first | exact kn7_go qt131 hg96 | (rw [qt131, hg96]; omega)
                                refine va_put (D := D) (ci := 12) (v := .int t131) (ty := .int) (C := RX12) (T := TX12) (N := 48) hx hb hg inC12 tyX12 tyX12_ok nmX12 hown hK hP hD hS 0 rfl rfl 22 (by decide) (hg _ wt5_182) (fun _ h9 => h9) rfl (by decide +kernel) rfl rfl (Nat.le_of_ble_eq_true rfl) dX12_tells_345 (fun H locs hP hD hS => ?_)
                                have hP : va_P D vwCl (mW K o r (upd u93 22 t131) a_37 g) H := hP
                                have hD : va_D A (mW K o r (upd u93 22 t131) a_37 g) := hD
                                refine k_gen (P := fun z => va_P D vwCl (mW K o r z a_37 g) H ∧ va_D A (mW K o r z a_37 g) ∧ (mI z a_37) ∧ (mE (XR []) f a z a_37) ∧ (mZ [22, 23, 24, 25] [26] f a z a_37) ∧ (eS z a_37 t false)) (upd u93 22 t131) ⟨hP, hD, (mI_f hI (fI_st hI.1 22 (kb_any _) (by decide) (by decide))), (mE_f hE (by decide)), (mZ_f hZ rfl), (eS_f hk0 (by decide) (by decide))⟩ (fun f_134 ef_134 hq => ?_)
                                obtain ⟨hP, hD, hI, hE, hZ, hk0⟩ := hq
                                refine lv_goto (tgt := 198) hx hb dX12_tells_348 (by decide) ?_
                                exact ihlp53 (jj + 1) (cc + 1) f_134 _ _ _ y51 (by first | exact kn7_ml hmlp53 | (have w1 := hmlp53; omega)) hI hE hZ hk0 b55 (by rw [(show f_134 22 = t131 from kn7_u1 ef_134 rfl)]; exact hg133) (hnx.elim (fun q => Or.inl ⟨q.1, q.2.2.symm⟩) (fun q => Or.inr ⟨q.1, by first | exact kn7_sl q.2 | (have w1 := q.2; omega)⟩)) (by rw [lastOf_s, ct_b (mr_n hr81 c129)]; exact htd) (by first | exact Nat.succ_le_of_lt hcs.1 | (have w1 := hcs.1; omega)) hP hD hS (lv_sub hl [4, 5, 6, 7, 8, 9, 10] rfl)
                              · have b135 : kb 0 bq79 0 := kb_eq c129 kc_0
                                refine lv_lload hx hb dX12_tells_308 (lv_at hl 2 rfl) ?_
                                refine lv_lconst (v := 0) hx hb dX12_tells_310 (by decide) ?_
                                refine W.lcmp hx hb dX12_tells_311 ?_
                                refine lv_topi (fun t136 et136 => ?_)
                                refine lv_if_ge (tgt := 319) hx hb dX12_tells_312 (by decide) (fun c137 => ?_) (fun c137 => ?_)
                                · have h138 := klc_ge (et136 ▸ c137)
                                  have b139 : kbl 0 v73 9223372036854775807 := klr_le2 h138 kcl_0 (kbl_any v73)
                                  refine lv_lload hx hb dX12_tells_319 (lv_at hl 2 rfl) ?_
                                  refine lv_iload hx hb dX12_tells_321 (lv_at hl 9 rfl) ?_
                                  refine lv_i2l hx hb dX12_tells_323 rfl ?_
                                  refine lv_topl (fun t140 et140 => ?_)
                                  have b141 : kbl 0 t140 20 := kbl_eq et140 (kbl_i2l bhi)
                                  refine W.lcmp hx hb dX12_tells_324 ?_
                                  refine lv_topi (fun t142 et142 => ?_)
                                  refine lv_if_le (tgt := 334) hx hb dX12_tells_325 (by decide) (fun c143 => ?_) (fun c143 => ?_)
                                  · have h144 := klc_le (et142 ▸ c143)
                                    have b145 : kbl 0 v73 20 := klr_le1 h144 b139 b141
                                    refine lv_lload hx hb dX12_tells_334 (lv_at hl 2 rfl) ?_
                                    refine lv_lstore (lv' := [(6, .long v73), (12, .int 1), (11, .int bq79), (9, .long v73), (8, .int 1), (0, .ref o), (1, .int hd), (2, .int bd), (3, .int pt), (4, .int hi), (5, .int wo)]) hx hb dX12_tells_336 hl (by decide) rfl (fun ls hl => ?_)
                                    refine lv_aload_n hx hb dX12_tells_338 rfl (lv_at hl 5 rfl) ?_
                                    refine lv_dup hx hb dX12_tells_339 rfl ?_
                                    refine va_get (D := D) (ci := 12) (v := .int (u93 22)) (C := RX12) (T := TX12) (N := 48) hx hb hg inC12 hown hK hP 0 rfl rfl 22 (by decide) (hg _ wt5_182) (fun _ h9 => h9) rfl dX12_tells_340 ?_
                                    refine k_top (z := gv95) egv95.symm ?_
                                    refine lv_iconst (v := 1) hx hb dX12_tells_343 (by decide) ?_
                                    refine lv_iadd hx hb dX12_tells_344 ?_
                                    refine lv_topi (fun t146 et146 => ?_)
                                    have b147 : kb 1 t146 2802 := kb_eq et146 (kb_add b97 kc_1 (by decide) (by decide))
                                    have qt146 : t146.toInt = gv95.toInt + 1 := by rw [et146]; exact kt_addc b97 kc_1 (by decide) (by decide)
                                    have hg148 : t146.toInt = 400 * (t : Int) + ((jj + 1 : Nat) : Int) := by first | exact kn7_go qt146 hg96 | (rw [qt146, hg96]; omega)
                                    refine va_put (D := D) (ci := 12) (v := .int t146) (ty := .int) (C := RX12) (T := TX12) (N := 48) hx hb hg inC12 tyX12 tyX12_ok nmX12 hown hK hP hD hS 0 rfl rfl 22 (by decide) (hg _ wt5_182) (fun _ h9 => h9) rfl (by decide +kernel) rfl rfl (Nat.le_of_ble_eq_true rfl) dX12_tells_345 (fun H locs hP hD hS => ?_)
                                    have hP : va_P D vwCl (mW K o r (upd u93 22 t146) a_37 g) H := hP
                                    have hD : va_D A (mW K o r (upd u93 22 t146) a_37 g) := hD
                                    refine k_gen (P := fun z => va_P D vwCl (mW K o r z a_37 g) H ∧ va_D A (mW K o r z a_37 g) ∧ (mI z a_37) ∧ (mE (XR []) f a z a_37) ∧ (mZ [22, 23, 24, 25] [26] f a z a_37) ∧ (eS z a_37 t false)) (upd u93 22 t146) ⟨hP, hD, (mI_f hI (fI_st hI.1 22 (kb_any _) (by decide) (by decide))), (mE_f hE (by decide)), (mZ_f hZ rfl), (eS_f hk0 (by decide) (by decide))⟩ (fun f_149 ef_149 hq => ?_)
                                    obtain ⟨hP, hD, hI, hE, hZ, hk0⟩ := hq
                                    refine lv_goto (tgt := 198) hx hb dX12_tells_348 (by decide) ?_
                                    exact ihlp53 (jj + 1) (cc + 1) f_149 _ _ _ v73 (by first | exact kn7_ml hmlp53 | (have w1 := hmlp53; omega)) hI hE hZ hk0 b145 (by rw [(show f_149 22 = t146 from kn7_u1 ef_149 rfl)]; exact hg148) (hnx.elim (fun q => Or.inl ⟨q.1, q.2.2.symm⟩) (fun q => Or.inr ⟨q.1, by first | exact kn7_sl q.2 | (have w1 := q.2; omega)⟩)) (by rw [lastOf_s, ct_y (hhk.trans (by rw [← c115]; decide +kernel)) (by have w1 := mt_1 hr100 c122; rw [kb_11 b114] at w1; exact w1) (mr_s hr81 c129)]; show (v73 : Int64).toInt = max 0 (min hi.toInt (v73.toInt)); have w0 := bhi.1; have k0 : (0 : Int64).toInt = 0 := (by decide +kernel); have k1 : (1 : Int64).toInt = 1 := (by decide +kernel); have k9t140 : t140.toInt = hi.toInt := (congrArg Int64.toInt et140).trans (kt_i2l _); omega) (by first | exact Nat.succ_le_of_lt hcs.1 | (have w1 := hcs.1; omega)) hP hD hS (lv_sub hl [0, 5, 6, 7, 8, 9, 10] rfl)
                                  · have h150 := klc_nle (et142 ▸ c143)
                                    have b151 : kbl 1 v73 9223372036854775807 := klr_lt2 h150 b141 b139 (by decide)
                                    refine lv_iload hx hb dX12_tells_328 (lv_at hl 9 rfl) ?_
                                    refine lv_i2l hx hb dX12_tells_330 rfl ?_
                                    refine lv_topl (fun t152 et152 => ?_)
                                    have b153 : kbl 0 t152 20 := kbl_eq et152 (kbl_i2l bhi)
                                    refine lv_goto (tgt := 336) hx hb dX12_tells_331 (by decide) ?_
                                    refine lv_lstore (lv' := [(6, .long t152), (12, .int 1), (11, .int bq79), (9, .long v73), (8, .int 1), (0, .ref o), (1, .int hd), (2, .int bd), (3, .int pt), (4, .int hi), (5, .int wo)]) hx hb dX12_tells_336 hl (by decide) rfl (fun ls hl => ?_)
                                    refine lv_aload_n hx hb dX12_tells_338 rfl (lv_at hl 5 rfl) ?_
                                    refine lv_dup hx hb dX12_tells_339 rfl ?_
                                    refine va_get (D := D) (ci := 12) (v := .int (u93 22)) (C := RX12) (T := TX12) (N := 48) hx hb hg inC12 hown hK hP 0 rfl rfl 22 (by decide) (hg _ wt5_182) (fun _ h9 => h9) rfl dX12_tells_340 ?_
                                    refine k_top (z := gv95) egv95.symm ?_
                                    refine lv_iconst (v := 1) hx hb dX12_tells_343 (by decide) ?_
                                    refine lv_iadd hx hb dX12_tells_344 ?_
                                    refine lv_topi (fun t154 et154 => ?_)
                                    have b155 : kb 1 t154 2802 := kb_eq et154 (kb_add b97 kc_1 (by decide) (by decide))
                                    have qt154 : t154.toInt = gv95.toInt + 1 := by rw [et154]; exact kt_addc b97 kc_1 (by decide) (by decide)
                                    have hg156 : t154.toInt = 400 * (t : Int) + ((jj + 1 : Nat) : Int) := by first | exact kn7_go qt154 hg96 | (rw [qt154, hg96]; omega)
                                    refine va_put (D := D) (ci := 12) (v := .int t154) (ty := .int) (C := RX12) (T := TX12) (N := 48) hx hb hg inC12 tyX12 tyX12_ok nmX12 hown hK hP hD hS 0 rfl rfl 22 (by decide) (hg _ wt5_182) (fun _ h9 => h9) rfl (by decide +kernel) rfl rfl (Nat.le_of_ble_eq_true rfl) dX12_tells_345 (fun H locs hP hD hS => ?_)
                                    have hP : va_P D vwCl (mW K o r (upd u93 22 t154) a_37 g) H := hP
                                    have hD : va_D A (mW K o r (upd u93 22 t154) a_37 g) := hD
                                    refine k_gen (P := fun z => va_P D vwCl (mW K o r z a_37 g) H ∧ va_D A (mW K o r z a_37 g) ∧ (mI z a_37) ∧ (mE (XR []) f a z a_37) ∧ (mZ [22, 23, 24, 25] [26] f a z a_37) ∧ (eS z a_37 t false)) (upd u93 22 t154) ⟨hP, hD, (mI_f hI (fI_st hI.1 22 (kb_any _) (by decide) (by decide))), (mE_f hE (by decide)), (mZ_f hZ rfl), (eS_f hk0 (by decide) (by decide))⟩ (fun f_157 ef_157 hq => ?_)
                                    obtain ⟨hP, hD, hI, hE, hZ, hk0⟩ := hq
                                    refine lv_goto (tgt := 198) hx hb dX12_tells_348 (by decide) ?_
                                    exact ihlp53 (jj + 1) (cc + 1) f_157 _ _ _ t152 (by first | exact kn7_ml hmlp53 | (have w1 := hmlp53; omega)) hI hE hZ hk0 b153 (by rw [(show f_157 22 = t154 from kn7_u1 ef_157 rfl)]; exact hg156) (hnx.elim (fun q => Or.inl ⟨q.1, q.2.2.symm⟩) (fun q => Or.inr ⟨q.1, by first | exact kn7_sl q.2 | (have w1 := q.2; omega)⟩)) (by rw [lastOf_s, ct_y (hhk.trans (by rw [← c115]; decide +kernel)) (by have w1 := mt_1 hr100 c122; rw [kb_11 b114] at w1; exact w1) (mr_s hr81 c129)]; show (t152 : Int64).toInt = max 0 (min hi.toInt (v73.toInt)); have w0 := bhi.1; have k0 : (0 : Int64).toInt = 0 := (by decide +kernel); have k1 : (1 : Int64).toInt = 1 := (by decide +kernel); have k9 : t152.toInt = hi.toInt := (congrArg Int64.toInt et152).trans (kt_i2l _); have k9t140 : t140.toInt = hi.toInt := (congrArg Int64.toInt et140).trans (kt_i2l _); have k9t152 : t152.toInt = hi.toInt := (congrArg Int64.toInt et152).trans (kt_i2l _); omega) (by first | exact Nat.succ_le_of_lt hcs.1 | (have w1 := hcs.1; omega)) hP hD hS (lv_sub hl [0, 5, 6, 7, 8, 9, 10] rfl)
                                · have h158 := klc_nge (et136 ▸ c137)
                                  have b159 : kbl (-9223372036854775808) v73 (-1) := klr_lt1 h158 (kbl_any v73) kcl_0 (by decide)
                                  refine lv_lconst (v := 0) hx hb dX12_tells_315 (by decide) ?_
                                  refine lv_goto (tgt := 336) hx hb dX12_tells_316 (by decide) ?_
                                  refine lv_lstore (lv' := [(6, .long 0), (12, .int 1), (11, .int bq79), (9, .long v73), (8, .int 1), (0, .ref o), (1, .int hd), (2, .int bd), (3, .int pt), (4, .int hi), (5, .int wo)]) hx hb dX12_tells_336 hl (by decide) rfl (fun ls hl => ?_)
                                  refine lv_aload_n hx hb dX12_tells_338 rfl (lv_at hl 5 rfl) ?_
                                  refine lv_dup hx hb dX12_tells_339 rfl ?_
                                  refine va_get (D := D) (ci := 12) (v := .int (u93 22)) (C := RX12) (T := TX12) (N := 48) hx hb hg inC12 hown hK hP 0 rfl rfl 22 (by decide) (hg _ wt5_182) (fun _ h9 => h9) rfl dX12_tells_340 ?_
                                  refine k_top (z := gv95) egv95.symm ?_
                                  refine lv_iconst (v := 1) hx hb dX12_tells_343 (by decide) ?_
                                  refine lv_iadd hx hb dX12_tells_344 ?_
                                  refine lv_topi (fun t160 et160 => ?_)
                                  have b161 : kb 1 t160 2802 := kb_eq et160 (kb_add b97 kc_1 (by decide) (by decide))
                                  have qt160 : t160.toInt = gv95.toInt + 1 := by rw [et160]; exact kt_addc b97 kc_1 (by decide) (by decide)
                                  have hg162 : t160.toInt = 400 * (t : Int) + ((jj + 1 : Nat) : Int) := by first | exact kn7_go qt160 hg96 | (rw [qt160, hg96]; omega)
                                  refine va_put (D := D) (ci := 12) (v := .int t160) (ty := .int) (C := RX12) (T := TX12) (N := 48) hx hb hg inC12 tyX12 tyX12_ok nmX12 hown hK hP hD hS 0 rfl rfl 22 (by decide) (hg _ wt5_182) (fun _ h9 => h9) rfl (by decide +kernel) rfl rfl (Nat.le_of_ble_eq_true rfl) dX12_tells_345 (fun H locs hP hD hS => ?_)
                                  have hP : va_P D vwCl (mW K o r (upd u93 22 t160) a_37 g) H := hP
                                  have hD : va_D A (mW K o r (upd u93 22 t160) a_37 g) := hD
                                  refine k_gen (P := fun z => va_P D vwCl (mW K o r z a_37 g) H ∧ va_D A (mW K o r z a_37 g) ∧ (mI z a_37) ∧ (mE (XR []) f a z a_37) ∧ (mZ [22, 23, 24, 25] [26] f a z a_37) ∧ (eS z a_37 t false)) (upd u93 22 t160) ⟨hP, hD, (mI_f hI (fI_st hI.1 22 (kb_any _) (by decide) (by decide))), (mE_f hE (by decide)), (mZ_f hZ rfl), (eS_f hk0 (by decide) (by decide))⟩ (fun f_163 ef_163 hq => ?_)
                                  obtain ⟨hP, hD, hI, hE, hZ, hk0⟩ := hq
                                  refine lv_goto (tgt := 198) hx hb dX12_tells_348 (by decide) ?_
                                  exact ihlp53 (jj + 1) (cc + 1) f_163 _ _ _ 0 (by first | exact kn7_ml hmlp53 | (have w1 := hmlp53; omega)) hI hE hZ hk0 (kbl_w kcl_0 (by decide) (by decide)) (by rw [(show f_163 22 = t160 from kn7_u1 ef_163 rfl)]; exact hg162) (hnx.elim (fun q => Or.inl ⟨q.1, q.2.2.symm⟩) (fun q => Or.inr ⟨q.1, by first | exact kn7_sl q.2 | (have w1 := q.2; omega)⟩)) (by rw [lastOf_s, ct_y (hhk.trans (by rw [← c115]; decide +kernel)) (by have w1 := mt_1 hr100 c122; rw [kb_11 b114] at w1; exact w1) (mr_s hr81 c129)]; show (0 : Int64).toInt = max 0 (min hi.toInt (v73.toInt)); have w0 := bhi.1; have k0 : (0 : Int64).toInt = 0 := (by decide +kernel); have k1 : (1 : Int64).toInt = 1 := (by decide +kernel); omega) (by first | exact Nat.succ_le_of_lt hcs.1 | (have w1 := hcs.1; omega)) hP hD hS (lv_sub hl [0, 5, 6, 7, 8, 9, 10] rfl)
                  · exact kb_dj c71 kc_1 kc_4 (by decide)
              · subst hj
                refine lv_aload_n hx hb dX12_tells_198 rfl (lv_at hl 1 rfl) ?_
                refine va_get (D := D) (ci := 12) (v := .int (F52 22)) (C := RX12) (T := TX12) (N := 48) hx hb hg inC12 hown hK hP 0 rfl rfl 22 (by decide) (hg _ wt5_182) (fun _ h9 => h9) rfl dX12_tells_199 ?_
                refine k_top (z := gv56) egv56.symm ?_
                refine lv_aload_n hx hb dX12_tells_202 rfl (lv_at hl 1 rfl) ?_
                refine va_get (D := D) (ci := 12) (v := .int (F52 23)) (C := RX12) (T := TX12) (N := 48) hx hb hg inC12 hown hK hP 0 rfl rfl 23 (by decide) (hg _ wt5_183) (fun _ h9 => h9) rfl dX12_tells_203 ?_
                refine lv_topi (fun t164 et164 => ?_)
                refine lv_icmp_ge (tgt := 351) hx hb dX12_tells_206 (by decide) (fun c165 => ?_) (fun c165 => ?_)
                · exact absurd (kc_le c165) (by have w1 := congrArg Int32.toInt et164.symm; have w2 := hk0.2.1; have w3 := hg57; have w4 := mC_lS hk0 (ne_0 (tq_y hp2 (x := 1) (y := 2004) (by decide +kernel) (by decide +kernel) h1) (by decide +kernel)); omega)
                · have h166 := (kc_nle c165)
                  have b167 : kb 1 t164 2147483647 := kr_lt2 h166 b58 (kb_any t164) (by decide)
                  refine lv_aload_n hx hb dX12_tells_209 rfl (lv_at hl 1 rfl) ?_
                  refine lv_aload_n hx hb dX12_tells_210 rfl (lv_at hl 1 rfl) ?_
                  refine va_get (D := D) (ci := 12) (v := .int (F52 22)) (C := RX12) (T := TX12) (N := 48) hx hb hg inC12 hown hK hP 0 rfl rfl 22 (by decide) (hg _ wt5_182) (fun _ h9 => h9) rfl dX12_tells_211 ?_
                  refine k_top (z := gv56) egv56.symm ?_
                  refine kI.callV (As := [.int gv56]) (rest := []) ⟨hx, hb, hml, hown, hg⟩ (m_codeAt l o r F52 a_37 g hI gv56  t (i) false hk0 hg57) (cwV 1 hg (kgV wt7_47 wt7_49 wp5_8 wt1_14 wt7_50) rfl rfl rfl (by decide +kernel) ⟨by decide, by decide⟩) hK hP hD hS hA mIs [] rfl (wr := []) rfl rfl rfl (fun i h => by cases h) 0 12 rfl rfl rfl hl.1 rfl (Nat.le_of_ble_eq_true rfl) dX12_tells_214 ⟨Nat.le_refl _, Nat.le_refl _⟩ (fun v169 u170 H locs hw168 hP hD hS => ?_)
                  have hP : va_P D vwCl (mW K o r F52 a_37 g) H := hP
                  have hD : va_D A (mW K o r F52 a_37 g) := hD
                  refine k_top (z := 1) (hw168.2.trans (tq_y hp2 (x := 1) (y := 2004) (by decide +kernel) (by decide +kernel) h1)) ?_
                  refine lv_istore (lv' := [(8, .int 1), (6, .long y51), (0, .ref o), (1, .int hd), (2, .int bd), (3, .int pt), (4, .int hi), (5, .int wo)]) hx hb dX12_tells_217 hl (by decide) rfl (fun ls hl => ?_)
                  refine lv_aload_n hx hb dX12_tells_219 rfl (lv_at hl 2 rfl) ?_
                  refine lv_iconst (v := 0) hx hb dX12_tells_220 (by decide) ?_
                  refine va_put (D := D) (ci := 12) (v := .int 0) (ty := .boolean) (C := RX12) (T := TX12) (N := 48) hx hb hg inC12 tyX12 tyX12_ok nmX12 hown hK hP hD hS 0 rfl rfl 24 (by decide) (hg _ wt5_184) (fun _ h9 => h9) rfl (by decide +kernel) rfl rfl (Nat.le_of_ble_eq_true rfl) dX12_tells_221 (fun H locs hP hD hS => ?_)
                  have hP : va_P D vwCl (mW K o r (upd F52 24 0) a_37 g) H := hP
                  have hD : va_D A (mW K o r (upd F52 24 0) a_37 g) := hD
                  refine k_gen (P := fun z => va_P D vwCl (mW K o r z a_37 g) H ∧ va_D A (mW K o r z a_37 g) ∧ (mI z a_37) ∧ (mE (XR []) f a z a_37) ∧ (mZ [22, 23, 24, 25] [26] f a z a_37) ∧ (eS z a_37 t false)) (upd F52 24 0) ⟨hP, hD, (mI_f hI (fI_st hI.1 24 kc_0 (by decide) (by decide))), (mE_f hE (by decide)), (mZ_f hZ rfl), (eS_f hk0 (by decide) (by decide))⟩ (fun f_171 ef_171 hq => ?_)
                  obtain ⟨hP, hD, hI, hE, hZ, hk0⟩ := hq
                  refine lv_aload_n hx hb dX12_tells_224 rfl (lv_at hl 2 rfl) ?_
                  refine lv_dup hx hb dX12_tells_225 rfl ?_
                  refine va_get (D := D) (ci := 12) (v := .int (f_171 22)) (C := RX12) (T := TX12) (N := 48) hx hb hg inC12 hown hK hP 0 rfl rfl 22 (by decide) (hg _ wt5_182) (fun _ h9 => h9) rfl dX12_tells_226 ?_
                  refine k_top (z := gv56) ((show f_171 22 = F52 22 from kn7_u1 ef_171 rfl).trans egv56.symm) ?_
                  refine lv_iconst (v := 1) hx hb dX12_tells_229 (by decide) ?_
                  refine lv_iadd hx hb dX12_tells_230 ?_
                  refine lv_topi (fun t172 et172 => ?_)
                  have b173 : kb 1 t172 2800 := kb_eq et172 (kb_add b58 kc_1 (by decide) (by decide))
                  have qt172 : t172.toInt = gv56.toInt + 1 := by rw [et172]; exact kt_addc b58 kc_1 (by decide) (by decide)
                  have hg174 : t172.toInt = 400 * (t : Int) + ((i + 1 : Nat) : Int) := by first | exact kn7_go qt172 hg57 | (rw [qt172, hg57]; omega)
                  refine va_put (D := D) (ci := 12) (v := .int t172) (ty := .int) (C := RX12) (T := TX12) (N := 48) hx hb hg inC12 tyX12 tyX12_ok nmX12 hown hK hP hD hS 0 rfl rfl 22 (by decide) (hg _ wt5_182) (fun _ h9 => h9) rfl (by decide +kernel) rfl rfl (Nat.le_of_ble_eq_true rfl) dX12_tells_231 (fun H locs hP hD hS => ?_)
                  have hP : va_P D vwCl (mW K o r (upd f_171 22 t172) a_37 g) H := hP
                  have hD : va_D A (mW K o r (upd f_171 22 t172) a_37 g) := hD
                  refine k_gen (P := fun z => va_P D vwCl (mW K o r z a_37 g) H ∧ va_D A (mW K o r z a_37 g) ∧ (mI z a_37) ∧ (mE (XR []) f a z a_37) ∧ (mZ [22, 23, 24, 25] [26] f a z a_37) ∧ (eS z a_37 t false)) (upd f_171 22 t172) ⟨hP, hD, (mI_f hI (fI_st hI.1 22 (kb_any _) (by decide) (by decide))), (mE_f hE (by decide)), (mZ_f hZ rfl), (eS_f hk0 (by decide) (by decide))⟩ (fun f_175 ef_175 hq => ?_)
                  obtain ⟨hP, hD, hI, hE, hZ, hk0⟩ := hq
                  refine lv_iload hx hb dX12_tells_234 (lv_at hl 0 rfl) ?_
                  refine lv_iconst (v := 4) hx hb dX12_tells_236 (by decide) ?_
                  refine lv_icmp_ne (tgt := 244) hx hb dX12_tells_237 (by decide) (fun c176 => ?_) (fun c176 => ?_)
                  · refine lv_aload_n hx hb dX12_tells_244 rfl (lv_at hl 2 rfl) ?_
                    refine lv_iconst (v := 1) hx hb dX12_tells_245 (by decide) ?_
                    refine kL.callV (As := [.int 1]) (rest := []) ⟨hx, hb, hml, hown, hg⟩ ((n_allSum 8) l o r f_175 a_37 g hI 1 (kb_w kc_1 (by decide) (by decide)) t (i + 1) (jj) false T (lwW (a 2) bd pt) ((DD (a 2 106).toInt.toNat).2.2.2.2.1 cc) hk0 (by rw [(show f_175 22 = t172 from kn7_u1 ef_175 rfl)]; exact hg174) hp2 (hp3 f_175) hs) (cwV 1 hg (kgV wt7_51 wt7_53 wp5_9 wt1_14 wt7_54) rfl rfl rfl (by decide +kernel) ⟨by decide, by decide⟩) hK hP hD hS hA mIs [] rfl (wr := []) rfl rfl rfl (fun i h => by cases h) 0 12 rfl rfl rfl hl.1 rfl (Nat.le_of_ble_eq_true rfl) dX12_tells_246 ⟨Nat.le_refl _, Nat.le_refl _⟩ (fun v178 u179 H locs hw177 hP hD hS => ?_)
                    have hP : va_P D vwCl (mW K o r u179 a_37 g) H := hP
                    have hD : va_D A (mW K o r u179 a_37 g) := hD
                    have hI : mI u179 a_37 := hw177.2.1
                    have eE180 : fE [22, 24] f_175 u179 := hw177.2.2.1
                    have hE : mE (XR []) f a u179 a_37 := mE_fE hE eE180 (by decide)
                    have hZ : mZ [22, 23, 24, 25] [26] f a u179 a_37 := mZ_fE hZ (fE_w (by decide) eE180)
                    have hk0 : eS u179 a_37 t false := eS_fE eE180 hk0 (by decide) (by decide)
                    obtain ⟨gv181, egv181⟩ : ∃ z : Int32, z = u179 22 := ⟨_, rfl⟩
                    have hg182 : gv181.toInt = 400 * (t : Int) + ((jj : Nat) : Int) := by rw [egv181]; exact hw177.2.2.2.1
                    have b183 : kb 0 gv181 2801 := kb_go1 hk0 (by have w1 := hk0.2.2.2.2; omega) hg182
                    obtain ⟨bq184, ebq184⟩ : ∃ z : Int32, z = u179 24 := ⟨_, rfl⟩
                    have b185 : kb 0 bq184 1 := kb_eq ebq184 (fI_at hI.1 24 (by decide) (by decide))
                    have hr186 : mRs 1 0 (((DD (a 2 106).toInt.toNat).2.2.2.2.1 cc) (lwW (a 2) bd pt)) bq184 v178.toInt := by have w1 := hw177.2.2.2.2; rw [((show f_175 24 = f_171 24 from kn7_u1 ef_175 rfl).trans (show f_171 24 = 0 from kn7_u1 ef_171 rfl)), ← ebq184] at w1; exact w1
                    refine lv_lstore (lv' := [(9, .long v178), (8, .int 1), (6, .long y51), (0, .ref o), (1, .int hd), (2, .int bd), (3, .int pt), (4, .int hi), (5, .int wo)]) hx hb dX12_tells_249 hl (by decide) rfl (fun ls hl => ?_)
                    refine lv_aload_n hx hb dX12_tells_251 rfl (lv_at hl 3 rfl) ?_
                    refine va_get (D := D) (ci := 12) (v := .int (u179 24)) (C := RX12) (T := TX12) (N := 48) hx hb hg inC12 hown hK hP 0 rfl rfl 24 (by decide) (hg _ wt5_184) (fun _ h9 => h9) rfl dX12_tells_252 ?_
                    refine k_top (z := bq184) ebq184.symm ?_
                    refine lv_istore (lv' := [(11, .int bq184), (9, .long v178), (8, .int 1), (6, .long y51), (0, .ref o), (1, .int hd), (2, .int bd), (3, .int pt), (4, .int hi), (5, .int wo)]) hx hb dX12_tells_255 hl (by decide) rfl (fun ls hl => ?_)
                    refine lv_aload_n hx hb dX12_tells_257 rfl (lv_at hl 4 rfl) ?_
                    refine lv_iconst (v := 0) hx hb dX12_tells_258 (by decide) ?_
                    refine va_put (D := D) (ci := 12) (v := .int 0) (ty := .boolean) (C := RX12) (T := TX12) (N := 48) hx hb hg inC12 tyX12 tyX12_ok nmX12 hown hK hP hD hS 0 rfl rfl 24 (by decide) (hg _ wt5_184) (fun _ h9 => h9) rfl (by decide +kernel) rfl rfl (Nat.le_of_ble_eq_true rfl) dX12_tells_259 (fun H locs hP hD hS => ?_)
                    have hP : va_P D vwCl (mW K o r (upd u179 24 0) a_37 g) H := hP
                    have hD : va_D A (mW K o r (upd u179 24 0) a_37 g) := hD
                    refine k_gen (P := fun z => va_P D vwCl (mW K o r z a_37 g) H ∧ va_D A (mW K o r z a_37 g) ∧ (mI z a_37) ∧ (mE (XR []) f a z a_37) ∧ (mZ [22, 23, 24, 25] [26] f a z a_37) ∧ (eS z a_37 t false)) (upd u179 24 0) ⟨hP, hD, (mI_f hI (fI_st hI.1 24 kc_0 (by decide) (by decide))), (mE_f hE (by decide)), (mZ_f hZ rfl), (eS_f hk0 (by decide) (by decide))⟩ (fun f_187 ef_187 hq => ?_)
                    obtain ⟨hP, hD, hI, hE, hZ, hk0⟩ := hq
                    refine lv_aload_n hx hb dX12_tells_262 rfl (lv_at hl 4 rfl) ?_
                    refine lv_iconst (v := 5) hx hb dX12_tells_263 (by decide) ?_
                    refine kI.callV (As := [.int 5]) (rest := []) ⟨hx, hb, hml, hown, hg⟩ (m_passes0 l o r f_187 a_37 g hI 5 (kb_w kc_5 (by decide) (by decide)) t (jj) false hk0 (by rw [((show f_187 22 = u179 22 from kn7_u1 ef_187 rfl).trans egv181.symm)]; exact hg182)) (cwV 1 hg (kgV wt7_63 wt7_65 wp5_12 wt1_14 wt7_66) rfl rfl rfl (by decide +kernel) ⟨by decide, by decide⟩) hK hP hD hS hA mIs [] rfl (wr := []) rfl rfl rfl (fun i h => by cases h) 0 12 rfl rfl rfl hl.1 rfl (Nat.le_of_ble_eq_true rfl) dX12_tells_264 ⟨Nat.le_refl _, Nat.le_refl _⟩ (fun v189 u190 H locs hw188 hP hD hS => ?_)
                    have hP : va_P D vwCl (mW K o r u190 a_37 g) H := hP
                    have hD : va_D A (mW K o r u190 a_37 g) := hD
                    have hI : mI u190 a_37 := hw188.2.1
                    have eE191 : fE [22] f_187 u190 := hw188.2.2.1
                    have hE : mE (XR []) f a u190 a_37 := mE_fE hE eE191 (by decide)
                    have hZ : mZ [22, 23, 24, 25] [26] f a u190 a_37 := mZ_fE hZ (fE_w (by decide) eE191)
                    have hk0 : eS u190 a_37 t false := eS_fE eE191 hk0 (by decide) (by decide)
                    have hz192 := pass_n hw188.2.2.2 (tq_n hp2 (x := 5) (y := 2003) (by decide +kernel) (by decide +kernel) h2)
                    refine k_top (z := 0) hz192.1 ?_
                    obtain ⟨gv193, egv193⟩ : ∃ z : Int32, z = u190 22 := ⟨_, rfl⟩
                    have hg194 : gv193.toInt = 400 * (t : Int) + ((jj : Nat) : Int) := by rw [egv193]; exact hz192.2
                    have b195 : kb 0 gv193 2801 := kb_go1 hk0 (by have w1 := hk0.2.2.2.2; omega) hg194
                    refine lv_if_eq (tgt := 278) hx hb dX12_tells_267 (by decide) (fun c196 => ?_) (fun c196 => ?_)
                    · refine lv_iconst (v := 1) hx hb dX12_tells_278 (by decide) ?_
                      refine lv_goto (tgt := 283) hx hb dX12_tells_279 (by decide) ?_
                      refine lv_istore (lv' := [(12, .int 1), (11, .int bq184), (9, .long v178), (8, .int 1), (6, .long y51), (0, .ref o), (1, .int hd), (2, .int bd), (3, .int pt), (4, .int hi), (5, .int wo)]) hx hb dX12_tells_283 hl (by decide) rfl (fun ls hl => ?_)
                      refine lv_iload hx hb dX12_tells_285 (lv_at hl 3 rfl) ?_
                      refine lv_iload_n hx hb dX12_tells_287 rfl (lv_at hl 6 rfl) ?_
                      refine lv_icmp_ne (tgt := 338) hx hb dX12_tells_288 (by decide) (fun c197 => ?_) (fun c197 => ?_)
                      · refine lv_aload_n hx hb dX12_tells_338 rfl (lv_at hl 5 rfl) ?_
                        refine lv_dup hx hb dX12_tells_339 rfl ?_
                        refine va_get (D := D) (ci := 12) (v := .int (u190 22)) (C := RX12) (T := TX12) (N := 48) hx hb hg inC12 hown hK hP 0 rfl rfl 22 (by decide) (hg _ wt5_182) (fun _ h9 => h9) rfl dX12_tells_340 ?_
                        refine k_top (z := gv193) egv193.symm ?_
                        refine lv_iconst (v := 1) hx hb dX12_tells_343 (by decide) ?_
                        refine lv_iadd hx hb dX12_tells_344 ?_
                        refine lv_topi (fun t198 et198 => ?_)
                        have b199 : kb 1 t198 2802 := kb_eq et198 (kb_add b195 kc_1 (by decide) (by decide))
                        have qt198 : t198.toInt = gv193.toInt + 1 := by rw [et198]; exact kt_addc b195 kc_1 (by decide) (by decide)
                        have hg200 : t198.toInt = 400 * (t : Int) + ((jj + 1 : Nat) : Int) := by first | exact kn7_go qt198 hg194 | (rw [qt198, hg194]; omega)
                        refine va_put (D := D) (ci := 12) (v := .int t198) (ty := .int) (C := RX12) (T := TX12) (N := 48) hx hb hg inC12 tyX12 tyX12_ok nmX12 hown hK hP hD hS 0 rfl rfl 22 (by decide) (hg _ wt5_182) (fun _ h9 => h9) rfl (by decide +kernel) rfl rfl (Nat.le_of_ble_eq_true rfl) dX12_tells_345 (fun H locs hP hD hS => ?_)
                        have hP : va_P D vwCl (mW K o r (upd u190 22 t198) a_37 g) H := hP
                        have hD : va_D A (mW K o r (upd u190 22 t198) a_37 g) := hD
                        refine k_gen (P := fun z => va_P D vwCl (mW K o r z a_37 g) H ∧ va_D A (mW K o r z a_37 g) ∧ (mI z a_37) ∧ (mE (XR []) f a z a_37) ∧ (mZ [22, 23, 24, 25] [26] f a z a_37) ∧ (eS z a_37 t false)) (upd u190 22 t198) ⟨hP, hD, (mI_f hI (fI_st hI.1 22 (kb_any _) (by decide) (by decide))), (mE_f hE (by decide)), (mZ_f hZ rfl), (eS_f hk0 (by decide) (by decide))⟩ (fun f_201 ef_201 hq => ?_)
                        obtain ⟨hP, hD, hI, hE, hZ, hk0⟩ := hq
                        refine lv_goto (tgt := 198) hx hb dX12_tells_348 (by decide) ?_
                        exact ihlp53 (jj + 1) (cc + 1) f_201 _ _ _ y51 (by first | exact kn7_ml hmlp53 | (have w1 := hmlp53; omega)) hI hE hZ hk0 b55 (by rw [(show f_201 22 = t198 from kn7_u1 ef_201 rfl)]; exact hg200) (hnx.elim (fun q => Or.inl ⟨q.1, q.2.2.symm⟩) (fun q => Or.inr ⟨q.1, by first | exact kn7_sl q.2 | (have w1 := q.2; omega)⟩)) (by rw [lastOf_s, ct_n (fun q => c197 (Int32.toInt_inj.mp (by first | exact (kHd_j (hhk.symm.trans q) bhd).trans (by decide +kernel) | (have w1 := kHd_j (hhk.symm.trans q) bhd; have w2 : (1 : Int32).toInt = 1 := (by decide +kernel); omega))))]; exact htd) (by first | exact Nat.succ_le_of_lt hcs.1 | (have w1 := hcs.1; omega)) hP hD hS (lv_sub hl [4, 5, 6, 7, 8, 9, 10] rfl)
                      · have b202 : kb 1 hd 1 := kb_eq c197.symm kc_1
                        refine lv_iload hx hb dX12_tells_291 (lv_at hl 0 rfl) ?_
                        refine lv_if_eq (tgt := 338) hx hb dX12_tells_293 (by decide) (fun c203 => ?_) (fun c203 => ?_)
                        · exact kb_dj c203 kc_1 kc_0 (by decide)
                        · refine lv_aload_n hx hb dX12_tells_296 rfl (lv_at hl 5 rfl) ?_
                          refine va_get (D := D) (ci := 12) (v := .int (u190 24)) (C := RX12) (T := TX12) (N := 48) hx hb hg inC12 hown hK hP 0 rfl rfl 24 (by decide) (hg _ wt5_184) (fun _ h9 => h9) rfl dX12_tells_297 ?_
                          refine k_top (z := 0) ((eE191 24 (by decide)).trans (show f_187 24 = 0 from kn7_u1 ef_187 rfl)) ?_
                          refine lv_if_ne (tgt := 338) hx hb dX12_tells_300 (by decide) (fun c204 => ?_) (fun c204 => ?_)
                          · exact kb_nsame c204 kc_0 kc_0
                          · refine lv_iload hx hb dX12_tells_303 (lv_at hl 1 rfl) ?_
                            refine lv_if_ne (tgt := 338) hx hb dX12_tells_305 (by decide) (fun c205 => ?_) (fun c205 => ?_)
                            · have b206 : kb 1 bq184 1 := kr_nel c205 b185 kc_0 (by decide)
                              refine lv_aload_n hx hb dX12_tells_338 rfl (lv_at hl 5 rfl) ?_
                              refine lv_dup hx hb dX12_tells_339 rfl ?_
                              refine va_get (D := D) (ci := 12) (v := .int (u190 22)) (C := RX12) (T := TX12) (N := 48) hx hb hg inC12 hown hK hP 0 rfl rfl 22 (by decide) (hg _ wt5_182) (fun _ h9 => h9) rfl dX12_tells_340 ?_
                              refine k_top (z := gv193) egv193.symm ?_
                              refine lv_iconst (v := 1) hx hb dX12_tells_343 (by decide) ?_
                              refine lv_iadd hx hb dX12_tells_344 ?_
                              refine lv_topi (fun t207 et207 => ?_)
                              have b208 : kb 1 t207 2802 := kb_eq et207 (kb_add b195 kc_1 (by decide) (by decide))
                              have qt207 : t207.toInt = gv193.toInt + 1 := by rw [et207]; exact kt_addc b195 kc_1 (by decide) (by decide)
                              have hg209 : t207.toInt = 400 * (t : Int) + ((jj + 1 : Nat) : Int) := by first | exact kn7_go qt207 hg194 | (rw [qt207, hg194]; omega)
                              refine va_put (D := D) (ci := 12) (v := .int t207) (ty := .int) (C := RX12) (T := TX12) (N := 48) hx hb hg inC12 tyX12 tyX12_ok nmX12 hown hK hP hD hS 0 rfl rfl 22 (by decide) (hg _ wt5_182) (fun _ h9 => h9) rfl (by decide +kernel) rfl rfl (Nat.le_of_ble_eq_true rfl) dX12_tells_345 (fun H locs hP hD hS => ?_)
                              have hP : va_P D vwCl (mW K o r (upd u190 22 t207) a_37 g) H := hP
                              have hD : va_D A (mW K o r (upd u190 22 t207) a_37 g) := hD
                              refine k_gen (P := fun z => va_P D vwCl (mW K o r z a_37 g) H ∧ va_D A (mW K o r z a_37 g) ∧ (mI z a_37) ∧ (mE (XR []) f a z a_37) ∧ (mZ [22, 23, 24, 25] [26] f a z a_37) ∧ (eS z a_37 t false)) (upd u190 22 t207) ⟨hP, hD, (mI_f hI (fI_st hI.1 22 (kb_any _) (by decide) (by decide))), (mE_f hE (by decide)), (mZ_f hZ rfl), (eS_f hk0 (by decide) (by decide))⟩ (fun f_210 ef_210 hq => ?_)
                              obtain ⟨hP, hD, hI, hE, hZ, hk0⟩ := hq
                              refine lv_goto (tgt := 198) hx hb dX12_tells_348 (by decide) ?_
                              exact ihlp53 (jj + 1) (cc + 1) f_210 _ _ _ y51 (by first | exact kn7_ml hmlp53 | (have w1 := hmlp53; omega)) hI hE hZ hk0 b55 (by rw [(show f_210 22 = t207 from kn7_u1 ef_210 rfl)]; exact hg209) (hnx.elim (fun q => Or.inl ⟨q.1, q.2.2.symm⟩) (fun q => Or.inr ⟨q.1, by first | exact kn7_sl q.2 | (have w1 := q.2; omega)⟩)) (by rw [lastOf_s, ct_b (mr_n hr186 c205)]; exact htd) (by first | exact Nat.succ_le_of_lt hcs.1 | (have w1 := hcs.1; omega)) hP hD hS (lv_sub hl [4, 5, 6, 7, 8, 9, 10] rfl)
                            · have b211 : kb 0 bq184 0 := kb_eq c205 kc_0
                              refine lv_lload hx hb dX12_tells_308 (lv_at hl 2 rfl) ?_
                              refine lv_lconst (v := 0) hx hb dX12_tells_310 (by decide) ?_
                              refine W.lcmp hx hb dX12_tells_311 ?_
                              refine lv_topi (fun t212 et212 => ?_)
                              refine lv_if_ge (tgt := 319) hx hb dX12_tells_312 (by decide) (fun c213 => ?_) (fun c213 => ?_)
                              · have h214 := klc_ge (et212 ▸ c213)
                                have b215 : kbl 0 v178 9223372036854775807 := klr_le2 h214 kcl_0 (kbl_any v178)
                                refine lv_lload hx hb dX12_tells_319 (lv_at hl 2 rfl) ?_
                                refine lv_iload hx hb dX12_tells_321 (lv_at hl 9 rfl) ?_
                                refine lv_i2l hx hb dX12_tells_323 rfl ?_
                                refine lv_topl (fun t216 et216 => ?_)
                                have b217 : kbl 0 t216 20 := kbl_eq et216 (kbl_i2l bhi)
                                refine W.lcmp hx hb dX12_tells_324 ?_
                                refine lv_topi (fun t218 et218 => ?_)
                                refine lv_if_le (tgt := 334) hx hb dX12_tells_325 (by decide) (fun c219 => ?_) (fun c219 => ?_)
                                · have h220 := klc_le (et218 ▸ c219)
                                  have b221 : kbl 0 v178 20 := klr_le1 h220 b215 b217
                                  refine lv_lload hx hb dX12_tells_334 (lv_at hl 2 rfl) ?_
                                  refine lv_lstore (lv' := [(6, .long v178), (12, .int 1), (11, .int bq184), (9, .long v178), (8, .int 1), (0, .ref o), (1, .int hd), (2, .int bd), (3, .int pt), (4, .int hi), (5, .int wo)]) hx hb dX12_tells_336 hl (by decide) rfl (fun ls hl => ?_)
                                  refine lv_aload_n hx hb dX12_tells_338 rfl (lv_at hl 5 rfl) ?_
                                  refine lv_dup hx hb dX12_tells_339 rfl ?_
                                  refine va_get (D := D) (ci := 12) (v := .int (u190 22)) (C := RX12) (T := TX12) (N := 48) hx hb hg inC12 hown hK hP 0 rfl rfl 22 (by decide) (hg _ wt5_182) (fun _ h9 => h9) rfl dX12_tells_340 ?_
                                  refine k_top (z := gv193) egv193.symm ?_
                                  refine lv_iconst (v := 1) hx hb dX12_tells_343 (by decide) ?_
                                  refine lv_iadd hx hb dX12_tells_344 ?_
                                  refine lv_topi (fun t222 et222 => ?_)
                                  have b223 : kb 1 t222 2802 := kb_eq et222 (kb_add b195 kc_1 (by decide) (by decide))
                                  have qt222 : t222.toInt = gv193.toInt + 1 := by rw [et222]; exact kt_addc b195 kc_1 (by decide) (by decide)
                                  have hg224 : t222.toInt = 400 * (t : Int) + ((jj + 1 : Nat) : Int) := by first | exact kn7_go qt222 hg194 | (rw [qt222, hg194]; omega)
                                  refine va_put (D := D) (ci := 12) (v := .int t222) (ty := .int) (C := RX12) (T := TX12) (N := 48) hx hb hg inC12 tyX12 tyX12_ok nmX12 hown hK hP hD hS 0 rfl rfl 22 (by decide) (hg _ wt5_182) (fun _ h9 => h9) rfl (by decide +kernel) rfl rfl (Nat.le_of_ble_eq_true rfl) dX12_tells_345 (fun H locs hP hD hS => ?_)
                                  have hP : va_P D vwCl (mW K o r (upd u190 22 t222) a_37 g) H := hP
                                  have hD : va_D A (mW K o r (upd u190 22 t222) a_37 g) := hD
                                  refine k_gen (P := fun z => va_P D vwCl (mW K o r z a_37 g) H ∧ va_D A (mW K o r z a_37 g) ∧ (mI z a_37) ∧ (mE (XR []) f a z a_37) ∧ (mZ [22, 23, 24, 25] [26] f a z a_37) ∧ (eS z a_37 t false)) (upd u190 22 t222) ⟨hP, hD, (mI_f hI (fI_st hI.1 22 (kb_any _) (by decide) (by decide))), (mE_f hE (by decide)), (mZ_f hZ rfl), (eS_f hk0 (by decide) (by decide))⟩ (fun f_225 ef_225 hq => ?_)
                                  obtain ⟨hP, hD, hI, hE, hZ, hk0⟩ := hq
                                  refine lv_goto (tgt := 198) hx hb dX12_tells_348 (by decide) ?_
                                  exact ihlp53 (jj + 1) (cc + 1) f_225 _ _ _ v178 (by first | exact kn7_ml hmlp53 | (have w1 := hmlp53; omega)) hI hE hZ hk0 b221 (by rw [(show f_225 22 = t222 from kn7_u1 ef_225 rfl)]; exact hg224) (hnx.elim (fun q => Or.inl ⟨q.1, q.2.2.symm⟩) (fun q => Or.inr ⟨q.1, by first | exact kn7_sl q.2 | (have w1 := q.2; omega)⟩)) (by rw [lastOf_s, ct_y (hhk.trans (by rw [← c197]; decide +kernel)) (by rw [hv3]; rfl) (mr_s hr186 c205)]; show (v178 : Int64).toInt = max 0 (min hi.toInt (v178.toInt)); have w0 := bhi.1; have k0 : (0 : Int64).toInt = 0 := (by decide +kernel); have k1 : (1 : Int64).toInt = 1 := (by decide +kernel); have k9t216 : t216.toInt = hi.toInt := (congrArg Int64.toInt et216).trans (kt_i2l _); omega) (by first | exact Nat.succ_le_of_lt hcs.1 | (have w1 := hcs.1; omega)) hP hD hS (lv_sub hl [0, 5, 6, 7, 8, 9, 10] rfl)
                                · have h226 := klc_nle (et218 ▸ c219)
                                  have b227 : kbl 1 v178 9223372036854775807 := klr_lt2 h226 b217 b215 (by decide)
                                  refine lv_iload hx hb dX12_tells_328 (lv_at hl 9 rfl) ?_
                                  refine lv_i2l hx hb dX12_tells_330 rfl ?_
                                  refine lv_topl (fun t228 et228 => ?_)
                                  have b229 : kbl 0 t228 20 := kbl_eq et228 (kbl_i2l bhi)
                                  refine lv_goto (tgt := 336) hx hb dX12_tells_331 (by decide) ?_
                                  refine lv_lstore (lv' := [(6, .long t228), (12, .int 1), (11, .int bq184), (9, .long v178), (8, .int 1), (0, .ref o), (1, .int hd), (2, .int bd), (3, .int pt), (4, .int hi), (5, .int wo)]) hx hb dX12_tells_336 hl (by decide) rfl (fun ls hl => ?_)
                                  refine lv_aload_n hx hb dX12_tells_338 rfl (lv_at hl 5 rfl) ?_
                                  refine lv_dup hx hb dX12_tells_339 rfl ?_
                                  refine va_get (D := D) (ci := 12) (v := .int (u190 22)) (C := RX12) (T := TX12) (N := 48) hx hb hg inC12 hown hK hP 0 rfl rfl 22 (by decide) (hg _ wt5_182) (fun _ h9 => h9) rfl dX12_tells_340 ?_
                                  refine k_top (z := gv193) egv193.symm ?_
                                  refine lv_iconst (v := 1) hx hb dX12_tells_343 (by decide) ?_
                                  refine lv_iadd hx hb dX12_tells_344 ?_
                                  refine lv_topi (fun t230 et230 => ?_)
                                  have b231 : kb 1 t230 2802 := kb_eq et230 (kb_add b195 kc_1 (by decide) (by decide))
                                  have qt230 : t230.toInt = gv193.toInt + 1 := by rw [et230]; exact kt_addc b195 kc_1 (by decide) (by decide)
                                  have hg232 : t230.toInt = 400 * (t : Int) + ((jj + 1 : Nat) : Int) := by first | exact kn7_go qt230 hg194 | (rw [qt230, hg194]; omega)
                                  refine va_put (D := D) (ci := 12) (v := .int t230) (ty := .int) (C := RX12) (T := TX12) (N := 48) hx hb hg inC12 tyX12 tyX12_ok nmX12 hown hK hP hD hS 0 rfl rfl 22 (by decide) (hg _ wt5_182) (fun _ h9 => h9) rfl (by decide +kernel) rfl rfl (Nat.le_of_ble_eq_true rfl) dX12_tells_345 (fun H locs hP hD hS => ?_)
                                  have hP : va_P D vwCl (mW K o r (upd u190 22 t230) a_37 g) H := hP
                                  have hD : va_D A (mW K o r (upd u190 22 t230) a_37 g) := hD
                                  refine k_gen (P := fun z => va_P D vwCl (mW K o r z a_37 g) H ∧ va_D A (mW K o r z a_37 g) ∧ (mI z a_37) ∧ (mE (XR []) f a z a_37) ∧ (mZ [22, 23, 24, 25] [26] f a z a_37) ∧ (eS z a_37 t false)) (upd u190 22 t230) ⟨hP, hD, (mI_f hI (fI_st hI.1 22 (kb_any _) (by decide) (by decide))), (mE_f hE (by decide)), (mZ_f hZ rfl), (eS_f hk0 (by decide) (by decide))⟩ (fun f_233 ef_233 hq => ?_)
                                  obtain ⟨hP, hD, hI, hE, hZ, hk0⟩ := hq
                                  refine lv_goto (tgt := 198) hx hb dX12_tells_348 (by decide) ?_
                                  exact ihlp53 (jj + 1) (cc + 1) f_233 _ _ _ t228 (by first | exact kn7_ml hmlp53 | (have w1 := hmlp53; omega)) hI hE hZ hk0 b229 (by rw [(show f_233 22 = t230 from kn7_u1 ef_233 rfl)]; exact hg232) (hnx.elim (fun q => Or.inl ⟨q.1, q.2.2.symm⟩) (fun q => Or.inr ⟨q.1, by first | exact kn7_sl q.2 | (have w1 := q.2; omega)⟩)) (by rw [lastOf_s, ct_y (hhk.trans (by rw [← c197]; decide +kernel)) (by rw [hv3]; rfl) (mr_s hr186 c205)]; show (t228 : Int64).toInt = max 0 (min hi.toInt (v178.toInt)); have w0 := bhi.1; have k0 : (0 : Int64).toInt = 0 := (by decide +kernel); have k1 : (1 : Int64).toInt = 1 := (by decide +kernel); have k9 : t228.toInt = hi.toInt := (congrArg Int64.toInt et228).trans (kt_i2l _); have k9t216 : t216.toInt = hi.toInt := (congrArg Int64.toInt et216).trans (kt_i2l _); have k9t228 : t228.toInt = hi.toInt := (congrArg Int64.toInt et228).trans (kt_i2l _); omega) (by first | exact Nat.succ_le_of_lt hcs.1 | (have w1 := hcs.1; omega)) hP hD hS (lv_sub hl [0, 5, 6, 7, 8, 9, 10] rfl)
                              · have h234 := klc_nge (et212 ▸ c213)
                                have b235 : kbl (-9223372036854775808) v178 (-1) := klr_lt1 h234 (kbl_any v178) kcl_0 (by decide)
                                refine lv_lconst (v := 0) hx hb dX12_tells_315 (by decide) ?_
                                refine lv_goto (tgt := 336) hx hb dX12_tells_316 (by decide) ?_
                                refine lv_lstore (lv' := [(6, .long 0), (12, .int 1), (11, .int bq184), (9, .long v178), (8, .int 1), (0, .ref o), (1, .int hd), (2, .int bd), (3, .int pt), (4, .int hi), (5, .int wo)]) hx hb dX12_tells_336 hl (by decide) rfl (fun ls hl => ?_)
                                refine lv_aload_n hx hb dX12_tells_338 rfl (lv_at hl 5 rfl) ?_
                                refine lv_dup hx hb dX12_tells_339 rfl ?_
                                refine va_get (D := D) (ci := 12) (v := .int (u190 22)) (C := RX12) (T := TX12) (N := 48) hx hb hg inC12 hown hK hP 0 rfl rfl 22 (by decide) (hg _ wt5_182) (fun _ h9 => h9) rfl dX12_tells_340 ?_
                                refine k_top (z := gv193) egv193.symm ?_
                                refine lv_iconst (v := 1) hx hb dX12_tells_343 (by decide) ?_
                                refine lv_iadd hx hb dX12_tells_344 ?_
                                refine lv_topi (fun t236 et236 => ?_)
                                have b237 : kb 1 t236 2802 := kb_eq et236 (kb_add b195 kc_1 (by decide) (by decide))
                                have qt236 : t236.toInt = gv193.toInt + 1 := by rw [et236]; exact kt_addc b195 kc_1 (by decide) (by decide)
                                have hg238 : t236.toInt = 400 * (t : Int) + ((jj + 1 : Nat) : Int) := by first | exact kn7_go qt236 hg194 | (rw [qt236, hg194]; omega)
                                refine va_put (D := D) (ci := 12) (v := .int t236) (ty := .int) (C := RX12) (T := TX12) (N := 48) hx hb hg inC12 tyX12 tyX12_ok nmX12 hown hK hP hD hS 0 rfl rfl 22 (by decide) (hg _ wt5_182) (fun _ h9 => h9) rfl (by decide +kernel) rfl rfl (Nat.le_of_ble_eq_true rfl) dX12_tells_345 (fun H locs hP hD hS => ?_)
                                have hP : va_P D vwCl (mW K o r (upd u190 22 t236) a_37 g) H := hP
                                have hD : va_D A (mW K o r (upd u190 22 t236) a_37 g) := hD
                                refine k_gen (P := fun z => va_P D vwCl (mW K o r z a_37 g) H ∧ va_D A (mW K o r z a_37 g) ∧ (mI z a_37) ∧ (mE (XR []) f a z a_37) ∧ (mZ [22, 23, 24, 25] [26] f a z a_37) ∧ (eS z a_37 t false)) (upd u190 22 t236) ⟨hP, hD, (mI_f hI (fI_st hI.1 22 (kb_any _) (by decide) (by decide))), (mE_f hE (by decide)), (mZ_f hZ rfl), (eS_f hk0 (by decide) (by decide))⟩ (fun f_239 ef_239 hq => ?_)
                                obtain ⟨hP, hD, hI, hE, hZ, hk0⟩ := hq
                                refine lv_goto (tgt := 198) hx hb dX12_tells_348 (by decide) ?_
                                exact ihlp53 (jj + 1) (cc + 1) f_239 _ _ _ 0 (by first | exact kn7_ml hmlp53 | (have w1 := hmlp53; omega)) hI hE hZ hk0 (kbl_w kcl_0 (by decide) (by decide)) (by rw [(show f_239 22 = t236 from kn7_u1 ef_239 rfl)]; exact hg238) (hnx.elim (fun q => Or.inl ⟨q.1, q.2.2.symm⟩) (fun q => Or.inr ⟨q.1, by first | exact kn7_sl q.2 | (have w1 := q.2; omega)⟩)) (by rw [lastOf_s, ct_y (hhk.trans (by rw [← c197]; decide +kernel)) (by rw [hv3]; rfl) (mr_s hr186 c205)]; show (0 : Int64).toInt = max 0 (min hi.toInt (v178.toInt)); have w0 := bhi.1; have k0 : (0 : Int64).toInt = 0 := (by decide +kernel); have k1 : (1 : Int64).toInt = 1 := (by decide +kernel); omega) (by first | exact Nat.succ_le_of_lt hcs.1 | (have w1 := hcs.1; omega)) hP hD hS (lv_sub hl [0, 5, 6, 7, 8, 9, 10] rfl)
                    · exact kb_nsame c196 kc_0 kc_0
                  · exact kb_dj c176 kc_1 kc_4 (by decide)
            · have b240 : kb 0 gv56 2799 := kb_go hk0 (mC_lt hk0 (ne_0 (tq_y hp2 (x := 2) (y := 2005) (by decide +kernel) (by decide +kernel) h1) (by decide +kernel))) hg57
              have hhk : (DD (a 2 106).toInt.toNat).2.2.1 cc = kHd 1 := hhd.trans (h1.trans (by decide +kernel))
              rcases hif with ⟨h2, h3⟩ | ⟨h2, hj, hv3⟩
              · refine lv_aload_n hx hb dX12_tells_198 rfl (lv_at hl 1 rfl) ?_
                refine va_get (D := D) (ci := 12) (v := .int (F52 22)) (C := RX12) (T := TX12) (N := 48) hx hb hg inC12 hown hK hP 0 rfl rfl 22 (by decide) (hg _ wt5_182) (fun _ h9 => h9) rfl dX12_tells_199 ?_
                refine k_top (z := gv56) egv56.symm ?_
                refine lv_aload_n hx hb dX12_tells_202 rfl (lv_at hl 1 rfl) ?_
                refine va_get (D := D) (ci := 12) (v := .int (F52 23)) (C := RX12) (T := TX12) (N := 48) hx hb hg inC12 hown hK hP 0 rfl rfl 23 (by decide) (hg _ wt5_183) (fun _ h9 => h9) rfl dX12_tells_203 ?_
                refine lv_topi (fun t241 et241 => ?_)
                refine lv_icmp_ge (tgt := 351) hx hb dX12_tells_206 (by decide) (fun c242 => ?_) (fun c242 => ?_)
                · exact absurd (kc_le c242) (by have w1 := congrArg Int32.toInt et241.symm; have w2 := hk0.2.1; have w3 := hg57; have w4 := mC_lS hk0 (ne_0 (tq_y hp2 (x := 2) (y := 2005) (by decide +kernel) (by decide +kernel) h1) (by decide +kernel)); omega)
                · have h243 := (kc_nle c242)
                  have b244 : kb 1 t241 2147483647 := kr_lt2 h243 b240 (kb_any t241) (by decide)
                  refine lv_aload_n hx hb dX12_tells_209 rfl (lv_at hl 1 rfl) ?_
                  refine lv_aload_n hx hb dX12_tells_210 rfl (lv_at hl 1 rfl) ?_
                  refine va_get (D := D) (ci := 12) (v := .int (F52 22)) (C := RX12) (T := TX12) (N := 48) hx hb hg inC12 hown hK hP 0 rfl rfl 22 (by decide) (hg _ wt5_182) (fun _ h9 => h9) rfl dX12_tells_211 ?_
                  refine k_top (z := gv56) egv56.symm ?_
                  refine kI.callV (As := [.int gv56]) (rest := []) ⟨hx, hb, hml, hown, hg⟩ (m_codeAt l o r F52 a_37 g hI gv56  t (i) false hk0 hg57) (cwV 1 hg (kgV wt7_47 wt7_49 wp5_8 wt1_14 wt7_50) rfl rfl rfl (by decide +kernel) ⟨by decide, by decide⟩) hK hP hD hS hA mIs [] rfl (wr := []) rfl rfl rfl (fun i h => by cases h) 0 12 rfl rfl rfl hl.1 rfl (Nat.le_of_ble_eq_true rfl) dX12_tells_214 ⟨Nat.le_refl _, Nat.le_refl _⟩ (fun v246 u247 H locs hw245 hP hD hS => ?_)
                  have hP : va_P D vwCl (mW K o r F52 a_37 g) H := hP
                  have hD : va_D A (mW K o r F52 a_37 g) := hD
                  refine k_top (z := 2) (hw245.2.trans (tq_y hp2 (x := 2) (y := 2005) (by decide +kernel) (by decide +kernel) h1)) ?_
                  refine lv_istore (lv' := [(8, .int 2), (6, .long y51), (0, .ref o), (1, .int hd), (2, .int bd), (3, .int pt), (4, .int hi), (5, .int wo)]) hx hb dX12_tells_217 hl (by decide) rfl (fun ls hl => ?_)
                  refine lv_aload_n hx hb dX12_tells_219 rfl (lv_at hl 2 rfl) ?_
                  refine lv_iconst (v := 0) hx hb dX12_tells_220 (by decide) ?_
                  refine va_put (D := D) (ci := 12) (v := .int 0) (ty := .boolean) (C := RX12) (T := TX12) (N := 48) hx hb hg inC12 tyX12 tyX12_ok nmX12 hown hK hP hD hS 0 rfl rfl 24 (by decide) (hg _ wt5_184) (fun _ h9 => h9) rfl (by decide +kernel) rfl rfl (Nat.le_of_ble_eq_true rfl) dX12_tells_221 (fun H locs hP hD hS => ?_)
                  have hP : va_P D vwCl (mW K o r (upd F52 24 0) a_37 g) H := hP
                  have hD : va_D A (mW K o r (upd F52 24 0) a_37 g) := hD
                  refine k_gen (P := fun z => va_P D vwCl (mW K o r z a_37 g) H ∧ va_D A (mW K o r z a_37 g) ∧ (mI z a_37) ∧ (mE (XR []) f a z a_37) ∧ (mZ [22, 23, 24, 25] [26] f a z a_37) ∧ (eS z a_37 t false)) (upd F52 24 0) ⟨hP, hD, (mI_f hI (fI_st hI.1 24 kc_0 (by decide) (by decide))), (mE_f hE (by decide)), (mZ_f hZ rfl), (eS_f hk0 (by decide) (by decide))⟩ (fun f_248 ef_248 hq => ?_)
                  obtain ⟨hP, hD, hI, hE, hZ, hk0⟩ := hq
                  refine lv_aload_n hx hb dX12_tells_224 rfl (lv_at hl 2 rfl) ?_
                  refine lv_dup hx hb dX12_tells_225 rfl ?_
                  refine va_get (D := D) (ci := 12) (v := .int (f_248 22)) (C := RX12) (T := TX12) (N := 48) hx hb hg inC12 hown hK hP 0 rfl rfl 22 (by decide) (hg _ wt5_182) (fun _ h9 => h9) rfl dX12_tells_226 ?_
                  refine k_top (z := gv56) ((show f_248 22 = F52 22 from kn7_u1 ef_248 rfl).trans egv56.symm) ?_
                  refine lv_iconst (v := 1) hx hb dX12_tells_229 (by decide) ?_
                  refine lv_iadd hx hb dX12_tells_230 ?_
                  refine lv_topi (fun t249 et249 => ?_)
                  have b250 : kb 1 t249 2800 := kb_eq et249 (kb_add b240 kc_1 (by decide) (by decide))
                  have qt249 : t249.toInt = gv56.toInt + 1 := by rw [et249]; exact kt_addc b240 kc_1 (by decide) (by decide)
                  have hg251 : t249.toInt = 400 * (t : Int) + ((i + 1 : Nat) : Int) := by first | exact kn7_go qt249 hg57 | (rw [qt249, hg57]; omega)
                  refine va_put (D := D) (ci := 12) (v := .int t249) (ty := .int) (C := RX12) (T := TX12) (N := 48) hx hb hg inC12 tyX12 tyX12_ok nmX12 hown hK hP hD hS 0 rfl rfl 22 (by decide) (hg _ wt5_182) (fun _ h9 => h9) rfl (by decide +kernel) rfl rfl (Nat.le_of_ble_eq_true rfl) dX12_tells_231 (fun H locs hP hD hS => ?_)
                  have hP : va_P D vwCl (mW K o r (upd f_248 22 t249) a_37 g) H := hP
                  have hD : va_D A (mW K o r (upd f_248 22 t249) a_37 g) := hD
                  refine k_gen (P := fun z => va_P D vwCl (mW K o r z a_37 g) H ∧ va_D A (mW K o r z a_37 g) ∧ (mI z a_37) ∧ (mE (XR []) f a z a_37) ∧ (mZ [22, 23, 24, 25] [26] f a z a_37) ∧ (eS z a_37 t false)) (upd f_248 22 t249) ⟨hP, hD, (mI_f hI (fI_st hI.1 22 (kb_any _) (by decide) (by decide))), (mE_f hE (by decide)), (mZ_f hZ rfl), (eS_f hk0 (by decide) (by decide))⟩ (fun f_252 ef_252 hq => ?_)
                  obtain ⟨hP, hD, hI, hE, hZ, hk0⟩ := hq
                  refine lv_iload hx hb dX12_tells_234 (lv_at hl 0 rfl) ?_
                  refine lv_iconst (v := 4) hx hb dX12_tells_236 (by decide) ?_
                  refine lv_icmp_ne (tgt := 244) hx hb dX12_tells_237 (by decide) (fun c253 => ?_) (fun c253 => ?_)
                  · refine lv_aload_n hx hb dX12_tells_244 rfl (lv_at hl 2 rfl) ?_
                    refine lv_iconst (v := 1) hx hb dX12_tells_245 (by decide) ?_
                    refine kL.callV (As := [.int 1]) (rest := []) ⟨hx, hb, hml, hown, hg⟩ ((n_allSum 8) l o r f_252 a_37 g hI 1 (kb_w kc_1 (by decide) (by decide)) t (i + 1) (mm) false T (lwW (a 2) bd pt) ((DD (a 2 106).toInt.toNat).2.2.2.2.1 cc) hk0 (by rw [(show f_252 22 = t249 from kn7_u1 ef_252 rfl)]; exact hg251) hp2 (hp3 f_252) hs) (cwV 1 hg (kgV wt7_51 wt7_53 wp5_9 wt1_14 wt7_54) rfl rfl rfl (by decide +kernel) ⟨by decide, by decide⟩) hK hP hD hS hA mIs [] rfl (wr := []) rfl rfl rfl (fun i h => by cases h) 0 12 rfl rfl rfl hl.1 rfl (Nat.le_of_ble_eq_true rfl) dX12_tells_246 ⟨Nat.le_refl _, Nat.le_refl _⟩ (fun v255 u256 H locs hw254 hP hD hS => ?_)
                    have hP : va_P D vwCl (mW K o r u256 a_37 g) H := hP
                    have hD : va_D A (mW K o r u256 a_37 g) := hD
                    have hI : mI u256 a_37 := hw254.2.1
                    have eE257 : fE [22, 24] f_252 u256 := hw254.2.2.1
                    have hE : mE (XR []) f a u256 a_37 := mE_fE hE eE257 (by decide)
                    have hZ : mZ [22, 23, 24, 25] [26] f a u256 a_37 := mZ_fE hZ (fE_w (by decide) eE257)
                    have hk0 : eS u256 a_37 t false := eS_fE eE257 hk0 (by decide) (by decide)
                    obtain ⟨gv258, egv258⟩ : ∃ z : Int32, z = u256 22 := ⟨_, rfl⟩
                    have hg259 : gv258.toInt = 400 * (t : Int) + ((mm : Nat) : Int) := by rw [egv258]; exact hw254.2.2.2.1
                    have b260 : kb 0 gv258 2799 := kb_go hk0 (mC_lt hk0 (ne_0 (tq_y hp2 (x := 5) (y := 2003) (by decide +kernel) (by decide +kernel) h2) (by decide +kernel))) hg259
                    obtain ⟨bq261, ebq261⟩ : ∃ z : Int32, z = u256 24 := ⟨_, rfl⟩
                    have b262 : kb 0 bq261 1 := kb_eq ebq261 (fI_at hI.1 24 (by decide) (by decide))
                    have hr263 : mRs 1 0 (((DD (a 2 106).toInt.toNat).2.2.2.2.1 cc) (lwW (a 2) bd pt)) bq261 v255.toInt := by have w1 := hw254.2.2.2.2; rw [((show f_252 24 = f_248 24 from kn7_u1 ef_252 rfl).trans (show f_248 24 = 0 from kn7_u1 ef_248 rfl)), ← ebq261] at w1; exact w1
                    refine lv_lstore (lv' := [(9, .long v255), (8, .int 2), (6, .long y51), (0, .ref o), (1, .int hd), (2, .int bd), (3, .int pt), (4, .int hi), (5, .int wo)]) hx hb dX12_tells_249 hl (by decide) rfl (fun ls hl => ?_)
                    refine lv_aload_n hx hb dX12_tells_251 rfl (lv_at hl 3 rfl) ?_
                    refine va_get (D := D) (ci := 12) (v := .int (u256 24)) (C := RX12) (T := TX12) (N := 48) hx hb hg inC12 hown hK hP 0 rfl rfl 24 (by decide) (hg _ wt5_184) (fun _ h9 => h9) rfl dX12_tells_252 ?_
                    refine k_top (z := bq261) ebq261.symm ?_
                    refine lv_istore (lv' := [(11, .int bq261), (9, .long v255), (8, .int 2), (6, .long y51), (0, .ref o), (1, .int hd), (2, .int bd), (3, .int pt), (4, .int hi), (5, .int wo)]) hx hb dX12_tells_255 hl (by decide) rfl (fun ls hl => ?_)
                    refine lv_aload_n hx hb dX12_tells_257 rfl (lv_at hl 4 rfl) ?_
                    refine lv_iconst (v := 0) hx hb dX12_tells_258 (by decide) ?_
                    refine va_put (D := D) (ci := 12) (v := .int 0) (ty := .boolean) (C := RX12) (T := TX12) (N := 48) hx hb hg inC12 tyX12 tyX12_ok nmX12 hown hK hP hD hS 0 rfl rfl 24 (by decide) (hg _ wt5_184) (fun _ h9 => h9) rfl (by decide +kernel) rfl rfl (Nat.le_of_ble_eq_true rfl) dX12_tells_259 (fun H locs hP hD hS => ?_)
                    have hP : va_P D vwCl (mW K o r (upd u256 24 0) a_37 g) H := hP
                    have hD : va_D A (mW K o r (upd u256 24 0) a_37 g) := hD
                    refine k_gen (P := fun z => va_P D vwCl (mW K o r z a_37 g) H ∧ va_D A (mW K o r z a_37 g) ∧ (mI z a_37) ∧ (mE (XR []) f a z a_37) ∧ (mZ [22, 23, 24, 25] [26] f a z a_37) ∧ (eS z a_37 t false)) (upd u256 24 0) ⟨hP, hD, (mI_f hI (fI_st hI.1 24 kc_0 (by decide) (by decide))), (mE_f hE (by decide)), (mZ_f hZ rfl), (eS_f hk0 (by decide) (by decide))⟩ (fun f_264 ef_264 hq => ?_)
                    obtain ⟨hP, hD, hI, hE, hZ, hk0⟩ := hq
                    refine lv_aload_n hx hb dX12_tells_262 rfl (lv_at hl 4 rfl) ?_
                    refine lv_iconst (v := 5) hx hb dX12_tells_263 (by decide) ?_
                    refine kI.callV (As := [.int 5]) (rest := []) ⟨hx, hb, hml, hown, hg⟩ (m_passes0 l o r f_264 a_37 g hI 5 (kb_w kc_5 (by decide) (by decide)) t (mm) false hk0 (by rw [((show f_264 22 = u256 22 from kn7_u1 ef_264 rfl).trans egv258.symm)]; exact hg259)) (cwV 1 hg (kgV wt7_63 wt7_65 wp5_12 wt1_14 wt7_66) rfl rfl rfl (by decide +kernel) ⟨by decide, by decide⟩) hK hP hD hS hA mIs [] rfl (wr := []) rfl rfl rfl (fun i h => by cases h) 0 12 rfl rfl rfl hl.1 rfl (Nat.le_of_ble_eq_true rfl) dX12_tells_264 ⟨Nat.le_refl _, Nat.le_refl _⟩ (fun v266 u267 H locs hw265 hP hD hS => ?_)
                    have hP : va_P D vwCl (mW K o r u267 a_37 g) H := hP
                    have hD : va_D A (mW K o r u267 a_37 g) := hD
                    have hI : mI u267 a_37 := hw265.2.1
                    have eE268 : fE [22] f_264 u267 := hw265.2.2.1
                    have hE : mE (XR []) f a u267 a_37 := mE_fE hE eE268 (by decide)
                    have hZ : mZ [22, 23, 24, 25] [26] f a u267 a_37 := mZ_fE hZ (fE_w (by decide) eE268)
                    have hk0 : eS u267 a_37 t false := eS_fE eE268 hk0 (by decide) (by decide)
                    have hz269 := pass_y hw265.2.2.2 (tq_y hp2 (x := 5) (y := 2003) (by decide +kernel) (by decide +kernel) h2)
                    refine k_top (z := 1) hz269.1 ?_
                    obtain ⟨gv270, egv270⟩ : ∃ z : Int32, z = u267 22 := ⟨_, rfl⟩
                    have hg271 : gv270.toInt = 400 * (t : Int) + ((mm + 1 : Nat) : Int) := by rw [egv270]; exact hz269.2
                    refine lv_if_eq (tgt := 278) hx hb dX12_tells_267 (by decide) (fun c272 => ?_) (fun c272 => ?_)
                    · exact kb_dj c272 kc_1 kc_0 (by decide)
                    · refine lv_aload_n hx hb dX12_tells_270 rfl (lv_at hl 4 rfl) ?_
                      refine lv_iconst (v := 1) hx hb dX12_tells_271 (by decide) ?_
                      refine kI.callV (As := [.int 1]) (rest := []) ⟨hx, hb, hml, hown, hg⟩ ((n_allTest 8) l o r u267 a_37 g hI 1 (kb_w kc_1 (by decide) (by decide)) t (mm + 1) (jj) false T (lwW (a 2) bd pt) ((DD (a 2 106).toInt.toNat).2.2.2.2.2.2 cc) hk0 (by rw [egv270.symm]; exact hg271) hp2 (hp3 u267) h3) (cwV 1 hg (kgV wt7_80 wt7_82 wp5_15 wt1_14 wt7_83) rfl rfl rfl (by decide +kernel) ⟨by decide, by decide⟩) hK hP hD hS hA mIs [] rfl (wr := []) rfl rfl rfl (fun i h => by cases h) 0 12 rfl rfl rfl hl.1 rfl (Nat.le_of_ble_eq_true rfl) dX12_tells_272 ⟨Nat.le_refl _, Nat.le_refl _⟩ (fun v274 u275 H locs hw273 hP hD hS => ?_)
                      have hP : va_P D vwCl (mW K o r u275 a_37 g) H := hP
                      have hD : va_D A (mW K o r u275 a_37 g) := hD
                      have hI : mI u275 a_37 := hw273.2.1
                      have eE276 : fE [22, 24] u267 u275 := hw273.2.2.1
                      have hE : mE (XR []) f a u275 a_37 := mE_fE hE eE276 (by decide)
                      have hZ : mZ [22, 23, 24, 25] [26] f a u275 a_37 := mZ_fE hZ (fE_w (by decide) eE276)
                      have hk0 : eS u275 a_37 t false := eS_fE eE276 hk0 (by decide) (by decide)
                      obtain ⟨gv277, egv277⟩ : ∃ z : Int32, z = u275 22 := ⟨_, rfl⟩
                      have hg278 : gv277.toInt = 400 * (t : Int) + ((jj : Nat) : Int) := by rw [egv277]; exact hw273.2.2.2.1
                      have b279 : kb 0 gv277 2801 := kb_go1 hk0 (by have w1 := hk0.2.2.2.2; omega) hg278
                      obtain ⟨bq280, ebq280⟩ : ∃ z : Int32, z = u275 24 := ⟨_, rfl⟩
                      have b281 : kb 0 bq280 1 := kb_eq ebq280 (fI_at hI.1 24 (by decide) (by decide))
                      have hr282 : mTv 1 0 (((DD (a 2 106).toInt.toNat).2.2.2.2.2.2 cc) (lwW (a 2) bd pt)) bq280 v274 := by have w1 := hw273.2.2.2.2; rw [((eE268 24 (by decide)).trans (show f_264 24 = 0 from kn7_u1 ef_264 rfl)), ← ebq280] at w1; exact w1
                      refine lv_if_eq (tgt := 282) hx hb dX12_tells_275 (by decide) (fun c283 => ?_) (fun c283 => ?_)
                      · have b284 : kb 0 v274 0 := kb_eq c283 kc_0
                        refine lv_iconst (v := 0) hx hb dX12_tells_282 (by decide) ?_
                        refine lv_istore (lv' := [(12, .int 0), (11, .int bq261), (9, .long v255), (8, .int 2), (6, .long y51), (0, .ref o), (1, .int hd), (2, .int bd), (3, .int pt), (4, .int hi), (5, .int wo)]) hx hb dX12_tells_283 hl (by decide) rfl (fun ls hl => ?_)
                        refine lv_iload hx hb dX12_tells_285 (lv_at hl 3 rfl) ?_
                        refine lv_iload_n hx hb dX12_tells_287 rfl (lv_at hl 6 rfl) ?_
                        refine lv_icmp_ne (tgt := 338) hx hb dX12_tells_288 (by decide) (fun c285 => ?_) (fun c285 => ?_)
                        · refine lv_aload_n hx hb dX12_tells_338 rfl (lv_at hl 5 rfl) ?_
                          refine lv_dup hx hb dX12_tells_339 rfl ?_
                          refine va_get (D := D) (ci := 12) (v := .int (u275 22)) (C := RX12) (T := TX12) (N := 48) hx hb hg inC12 hown hK hP 0 rfl rfl 22 (by decide) (hg _ wt5_182) (fun _ h9 => h9) rfl dX12_tells_340 ?_
                          refine k_top (z := gv277) egv277.symm ?_
                          refine lv_iconst (v := 1) hx hb dX12_tells_343 (by decide) ?_
                          refine lv_iadd hx hb dX12_tells_344 ?_
                          refine lv_topi (fun t286 et286 => ?_)
                          have b287 : kb 1 t286 2802 := kb_eq et286 (kb_add b279 kc_1 (by decide) (by decide))
                          have qt286 : t286.toInt = gv277.toInt + 1 := by rw [et286]; exact kt_addc b279 kc_1 (by decide) (by decide)
                          have hg288 : t286.toInt = 400 * (t : Int) + ((jj + 1 : Nat) : Int) := by first | exact kn7_go qt286 hg278 | (rw [qt286, hg278]; omega)
                          refine va_put (D := D) (ci := 12) (v := .int t286) (ty := .int) (C := RX12) (T := TX12) (N := 48) hx hb hg inC12 tyX12 tyX12_ok nmX12 hown hK hP hD hS 0 rfl rfl 22 (by decide) (hg _ wt5_182) (fun _ h9 => h9) rfl (by decide +kernel) rfl rfl (Nat.le_of_ble_eq_true rfl) dX12_tells_345 (fun H locs hP hD hS => ?_)
                          have hP : va_P D vwCl (mW K o r (upd u275 22 t286) a_37 g) H := hP
                          have hD : va_D A (mW K o r (upd u275 22 t286) a_37 g) := hD
                          refine k_gen (P := fun z => va_P D vwCl (mW K o r z a_37 g) H ∧ va_D A (mW K o r z a_37 g) ∧ (mI z a_37) ∧ (mE (XR []) f a z a_37) ∧ (mZ [22, 23, 24, 25] [26] f a z a_37) ∧ (eS z a_37 t false)) (upd u275 22 t286) ⟨hP, hD, (mI_f hI (fI_st hI.1 22 (kb_any _) (by decide) (by decide))), (mE_f hE (by decide)), (mZ_f hZ rfl), (eS_f hk0 (by decide) (by decide))⟩ (fun f_289 ef_289 hq => ?_)
                          obtain ⟨hP, hD, hI, hE, hZ, hk0⟩ := hq
                          refine lv_goto (tgt := 198) hx hb dX12_tells_348 (by decide) ?_
                          exact ihlp53 (jj + 1) (cc + 1) f_289 _ _ _ y51 (by first | exact kn7_ml hmlp53 | (have w1 := hmlp53; omega)) hI hE hZ hk0 b55 (by rw [(show f_289 22 = t286 from kn7_u1 ef_289 rfl)]; exact hg288) (hnx.elim (fun q => Or.inl ⟨q.1, q.2.2.symm⟩) (fun q => Or.inr ⟨q.1, by first | exact kn7_sl q.2 | (have w1 := q.2; omega)⟩)) (by rw [lastOf_s, ct_n (fun q => c285 (Int32.toInt_inj.mp (by first | exact (kHd_j (hhk.symm.trans q) bhd).trans (by decide +kernel) | (have w1 := kHd_j (hhk.symm.trans q) bhd; have w2 : (2 : Int32).toInt = 2 := (by decide +kernel); omega))))]; exact htd) (by first | exact Nat.succ_le_of_lt hcs.1 | (have w1 := hcs.1; omega)) hP hD hS (lv_sub hl [4, 5, 6, 7, 8, 9, 10] rfl)
                        · have b290 : kb 2 hd 2 := kb_eq c285.symm kc_2
                          refine lv_iload hx hb dX12_tells_291 (lv_at hl 0 rfl) ?_
                          refine lv_if_eq (tgt := 338) hx hb dX12_tells_293 (by decide) (fun c291 => ?_) (fun c291 => ?_)
                          · refine lv_aload_n hx hb dX12_tells_338 rfl (lv_at hl 5 rfl) ?_
                            refine lv_dup hx hb dX12_tells_339 rfl ?_
                            refine va_get (D := D) (ci := 12) (v := .int (u275 22)) (C := RX12) (T := TX12) (N := 48) hx hb hg inC12 hown hK hP 0 rfl rfl 22 (by decide) (hg _ wt5_182) (fun _ h9 => h9) rfl dX12_tells_340 ?_
                            refine k_top (z := gv277) egv277.symm ?_
                            refine lv_iconst (v := 1) hx hb dX12_tells_343 (by decide) ?_
                            refine lv_iadd hx hb dX12_tells_344 ?_
                            refine lv_topi (fun t292 et292 => ?_)
                            have b293 : kb 1 t292 2802 := kb_eq et292 (kb_add b279 kc_1 (by decide) (by decide))
                            have qt292 : t292.toInt = gv277.toInt + 1 := by rw [et292]; exact kt_addc b279 kc_1 (by decide) (by decide)
                            have hg294 : t292.toInt = 400 * (t : Int) + ((jj + 1 : Nat) : Int) := by first | exact kn7_go qt292 hg278 | (rw [qt292, hg278]; omega)
                            refine va_put (D := D) (ci := 12) (v := .int t292) (ty := .int) (C := RX12) (T := TX12) (N := 48) hx hb hg inC12 tyX12 tyX12_ok nmX12 hown hK hP hD hS 0 rfl rfl 22 (by decide) (hg _ wt5_182) (fun _ h9 => h9) rfl (by decide +kernel) rfl rfl (Nat.le_of_ble_eq_true rfl) dX12_tells_345 (fun H locs hP hD hS => ?_)
                            have hP : va_P D vwCl (mW K o r (upd u275 22 t292) a_37 g) H := hP
                            have hD : va_D A (mW K o r (upd u275 22 t292) a_37 g) := hD
                            refine k_gen (P := fun z => va_P D vwCl (mW K o r z a_37 g) H ∧ va_D A (mW K o r z a_37 g) ∧ (mI z a_37) ∧ (mE (XR []) f a z a_37) ∧ (mZ [22, 23, 24, 25] [26] f a z a_37) ∧ (eS z a_37 t false)) (upd u275 22 t292) ⟨hP, hD, (mI_f hI (fI_st hI.1 22 (kb_any _) (by decide) (by decide))), (mE_f hE (by decide)), (mZ_f hZ rfl), (eS_f hk0 (by decide) (by decide))⟩ (fun f_295 ef_295 hq => ?_)
                            obtain ⟨hP, hD, hI, hE, hZ, hk0⟩ := hq
                            refine lv_goto (tgt := 198) hx hb dX12_tells_348 (by decide) ?_
                            exact ihlp53 (jj + 1) (cc + 1) f_295 _ _ _ y51 (by first | exact kn7_ml hmlp53 | (have w1 := hmlp53; omega)) hI hE hZ hk0 b55 (by rw [(show f_295 22 = t292 from kn7_u1 ef_295 rfl)]; exact hg294) (hnx.elim (fun q => Or.inl ⟨q.1, q.2.2.symm⟩) (fun q => Or.inr ⟨q.1, by first | exact kn7_sl q.2 | (have w1 := q.2; omega)⟩)) (by rw [lastOf_s, ct_t (mt_0 hr282 c283)]; exact htd) (by first | exact Nat.succ_le_of_lt hcs.1 | (have w1 := hcs.1; omega)) hP hD hS (lv_sub hl [4, 5, 6, 7, 8, 9, 10] rfl)
                          · exact kb_nsame c291 kc_0 kc_0
                      · have b296 : kb 1 v274 1 := kr_nel c283 hw273.1 kc_0 (by decide)
                        refine lv_iconst (v := 1) hx hb dX12_tells_278 (by decide) ?_
                        refine lv_goto (tgt := 283) hx hb dX12_tells_279 (by decide) ?_
                        refine lv_istore (lv' := [(12, .int 1), (11, .int bq261), (9, .long v255), (8, .int 2), (6, .long y51), (0, .ref o), (1, .int hd), (2, .int bd), (3, .int pt), (4, .int hi), (5, .int wo)]) hx hb dX12_tells_283 hl (by decide) rfl (fun ls hl => ?_)
                        refine lv_iload hx hb dX12_tells_285 (lv_at hl 3 rfl) ?_
                        refine lv_iload_n hx hb dX12_tells_287 rfl (lv_at hl 6 rfl) ?_
                        refine lv_icmp_ne (tgt := 338) hx hb dX12_tells_288 (by decide) (fun c297 => ?_) (fun c297 => ?_)
                        · refine lv_aload_n hx hb dX12_tells_338 rfl (lv_at hl 5 rfl) ?_
                          refine lv_dup hx hb dX12_tells_339 rfl ?_
                          refine va_get (D := D) (ci := 12) (v := .int (u275 22)) (C := RX12) (T := TX12) (N := 48) hx hb hg inC12 hown hK hP 0 rfl rfl 22 (by decide) (hg _ wt5_182) (fun _ h9 => h9) rfl dX12_tells_340 ?_
                          refine k_top (z := gv277) egv277.symm ?_
                          refine lv_iconst (v := 1) hx hb dX12_tells_343 (by decide) ?_
                          refine lv_iadd hx hb dX12_tells_344 ?_
                          refine lv_topi (fun t298 et298 => ?_)
                          have b299 : kb 1 t298 2802 := kb_eq et298 (kb_add b279 kc_1 (by decide) (by decide))
                          have qt298 : t298.toInt = gv277.toInt + 1 := by rw [et298]; exact kt_addc b279 kc_1 (by decide) (by decide)
                          have hg300 : t298.toInt = 400 * (t : Int) + ((jj + 1 : Nat) : Int) := by first | exact kn7_go qt298 hg278 | (rw [qt298, hg278]; omega)
                          refine va_put (D := D) (ci := 12) (v := .int t298) (ty := .int) (C := RX12) (T := TX12) (N := 48) hx hb hg inC12 tyX12 tyX12_ok nmX12 hown hK hP hD hS 0 rfl rfl 22 (by decide) (hg _ wt5_182) (fun _ h9 => h9) rfl (by decide +kernel) rfl rfl (Nat.le_of_ble_eq_true rfl) dX12_tells_345 (fun H locs hP hD hS => ?_)
                          have hP : va_P D vwCl (mW K o r (upd u275 22 t298) a_37 g) H := hP
                          have hD : va_D A (mW K o r (upd u275 22 t298) a_37 g) := hD
                          refine k_gen (P := fun z => va_P D vwCl (mW K o r z a_37 g) H ∧ va_D A (mW K o r z a_37 g) ∧ (mI z a_37) ∧ (mE (XR []) f a z a_37) ∧ (mZ [22, 23, 24, 25] [26] f a z a_37) ∧ (eS z a_37 t false)) (upd u275 22 t298) ⟨hP, hD, (mI_f hI (fI_st hI.1 22 (kb_any _) (by decide) (by decide))), (mE_f hE (by decide)), (mZ_f hZ rfl), (eS_f hk0 (by decide) (by decide))⟩ (fun f_301 ef_301 hq => ?_)
                          obtain ⟨hP, hD, hI, hE, hZ, hk0⟩ := hq
                          refine lv_goto (tgt := 198) hx hb dX12_tells_348 (by decide) ?_
                          exact ihlp53 (jj + 1) (cc + 1) f_301 _ _ _ y51 (by first | exact kn7_ml hmlp53 | (have w1 := hmlp53; omega)) hI hE hZ hk0 b55 (by rw [(show f_301 22 = t298 from kn7_u1 ef_301 rfl)]; exact hg300) (hnx.elim (fun q => Or.inl ⟨q.1, q.2.2.symm⟩) (fun q => Or.inr ⟨q.1, by first | exact kn7_sl q.2 | (have w1 := q.2; omega)⟩)) (by rw [lastOf_s, ct_n (fun q => c297 (Int32.toInt_inj.mp (by first | exact (kHd_j (hhk.symm.trans q) bhd).trans (by decide +kernel) | (have w1 := kHd_j (hhk.symm.trans q) bhd; have w2 : (2 : Int32).toInt = 2 := (by decide +kernel); omega))))]; exact htd) (by first | exact Nat.succ_le_of_lt hcs.1 | (have w1 := hcs.1; omega)) hP hD hS (lv_sub hl [4, 5, 6, 7, 8, 9, 10] rfl)
                        · have b302 : kb 2 hd 2 := kb_eq c297.symm kc_2
                          refine lv_iload hx hb dX12_tells_291 (lv_at hl 0 rfl) ?_
                          refine lv_if_eq (tgt := 338) hx hb dX12_tells_293 (by decide) (fun c303 => ?_) (fun c303 => ?_)
                          · exact kb_dj c303 kc_1 kc_0 (by decide)
                          · refine lv_aload_n hx hb dX12_tells_296 rfl (lv_at hl 5 rfl) ?_
                            refine va_get (D := D) (ci := 12) (v := .int (u275 24)) (C := RX12) (T := TX12) (N := 48) hx hb hg inC12 hown hK hP 0 rfl rfl 24 (by decide) (hg _ wt5_184) (fun _ h9 => h9) rfl dX12_tells_297 ?_
                            refine k_top (z := bq280) ebq280.symm ?_
                            refine lv_if_ne (tgt := 338) hx hb dX12_tells_300 (by decide) (fun c304 => ?_) (fun c304 => ?_)
                            · have b305 : kb 1 bq280 1 := kr_nel c304 b281 kc_0 (by decide)
                              refine lv_aload_n hx hb dX12_tells_338 rfl (lv_at hl 5 rfl) ?_
                              refine lv_dup hx hb dX12_tells_339 rfl ?_
                              refine va_get (D := D) (ci := 12) (v := .int (u275 22)) (C := RX12) (T := TX12) (N := 48) hx hb hg inC12 hown hK hP 0 rfl rfl 22 (by decide) (hg _ wt5_182) (fun _ h9 => h9) rfl dX12_tells_340 ?_
                              refine k_top (z := gv277) egv277.symm ?_
                              refine lv_iconst (v := 1) hx hb dX12_tells_343 (by decide) ?_
                              refine lv_iadd hx hb dX12_tells_344 ?_
                              refine lv_topi (fun t306 et306 => ?_)
                              have b307 : kb 1 t306 2802 := kb_eq et306 (kb_add b279 kc_1 (by decide) (by decide))
                              have qt306 : t306.toInt = gv277.toInt + 1 := by rw [et306]; exact kt_addc b279 kc_1 (by decide) (by decide)
                              have hg308 : t306.toInt = 400 * (t : Int) + ((jj + 1 : Nat) : Int) := by first | exact kn7_go qt306 hg278 | (rw [qt306, hg278]; omega)
                              refine va_put (D := D) (ci := 12) (v := .int t306) (ty := .int) (C := RX12) (T := TX12) (N := 48) hx hb hg inC12 tyX12 tyX12_ok nmX12 hown hK hP hD hS 0 rfl rfl 22 (by decide) (hg _ wt5_182) (fun _ h9 => h9) rfl (by decide +kernel) rfl rfl (Nat.le_of_ble_eq_true rfl) dX12_tells_345 (fun H locs hP hD hS => ?_)
                              have hP : va_P D vwCl (mW K o r (upd u275 22 t306) a_37 g) H := hP
                              have hD : va_D A (mW K o r (upd u275 22 t306) a_37 g) := hD
                              refine k_gen (P := fun z => va_P D vwCl (mW K o r z a_37 g) H ∧ va_D A (mW K o r z a_37 g) ∧ (mI z a_37) ∧ (mE (XR []) f a z a_37) ∧ (mZ [22, 23, 24, 25] [26] f a z a_37) ∧ (eS z a_37 t false)) (upd u275 22 t306) ⟨hP, hD, (mI_f hI (fI_st hI.1 22 (kb_any _) (by decide) (by decide))), (mE_f hE (by decide)), (mZ_f hZ rfl), (eS_f hk0 (by decide) (by decide))⟩ (fun f_309 ef_309 hq => ?_)
                              obtain ⟨hP, hD, hI, hE, hZ, hk0⟩ := hq
                              refine lv_goto (tgt := 198) hx hb dX12_tells_348 (by decide) ?_
                              exact ihlp53 (jj + 1) (cc + 1) f_309 _ _ _ y51 (by first | exact kn7_ml hmlp53 | (have w1 := hmlp53; omega)) hI hE hZ hk0 b55 (by rw [(show f_309 22 = t306 from kn7_u1 ef_309 rfl)]; exact hg308) (hnx.elim (fun q => Or.inl ⟨q.1, q.2.2.symm⟩) (fun q => Or.inr ⟨q.1, by first | exact kn7_sl q.2 | (have w1 := q.2; omega)⟩)) (by rw [lastOf_s, ct_t (mt_n hr282 c304)]; exact htd) (by first | exact Nat.succ_le_of_lt hcs.1 | (have w1 := hcs.1; omega)) hP hD hS (lv_sub hl [4, 5, 6, 7, 8, 9, 10] rfl)
                            · have b310 : kb 0 bq280 0 := kb_eq c304 kc_0
                              refine lv_iload hx hb dX12_tells_303 (lv_at hl 1 rfl) ?_
                              refine lv_if_ne (tgt := 338) hx hb dX12_tells_305 (by decide) (fun c311 => ?_) (fun c311 => ?_)
                              · have b312 : kb 1 bq261 1 := kr_nel c311 b262 kc_0 (by decide)
                                refine lv_aload_n hx hb dX12_tells_338 rfl (lv_at hl 5 rfl) ?_
                                refine lv_dup hx hb dX12_tells_339 rfl ?_
                                refine va_get (D := D) (ci := 12) (v := .int (u275 22)) (C := RX12) (T := TX12) (N := 48) hx hb hg inC12 hown hK hP 0 rfl rfl 22 (by decide) (hg _ wt5_182) (fun _ h9 => h9) rfl dX12_tells_340 ?_
                                refine k_top (z := gv277) egv277.symm ?_
                                refine lv_iconst (v := 1) hx hb dX12_tells_343 (by decide) ?_
                                refine lv_iadd hx hb dX12_tells_344 ?_
                                refine lv_topi (fun t313 et313 => ?_)
                                have b314 : kb 1 t313 2802 := kb_eq et313 (kb_add b279 kc_1 (by decide) (by decide))
                                have qt313 : t313.toInt = gv277.toInt + 1 := by rw [et313]; exact kt_addc b279 kc_1 (by decide) (by decide)
                                have hg315 : t313.toInt = 400 * (t : Int) + ((jj + 1 : Nat) : Int) := by first | exact kn7_go qt313 hg278 | (rw [qt313, hg278]; omega)
                                refine va_put (D := D) (ci := 12) (v := .int t313) (ty := .int) (C := RX12) (T := TX12) (N := 48) hx hb hg inC12 tyX12 tyX12_ok nmX12 hown hK hP hD hS 0 rfl rfl 22 (by decide) (hg _ wt5_182) (fun _ h9 => h9) rfl (by decide +kernel) rfl rfl (Nat.le_of_ble_eq_true rfl) dX12_tells_345 (fun H locs hP hD hS => ?_)
                                have hP : va_P D vwCl (mW K o r (upd u275 22 t313) a_37 g) H := hP
                                have hD : va_D A (mW K o r (upd u275 22 t313) a_37 g) := hD
                                refine k_gen (P := fun z => va_P D vwCl (mW K o r z a_37 g) H ∧ va_D A (mW K o r z a_37 g) ∧ (mI z a_37) ∧ (mE (XR []) f a z a_37) ∧ (mZ [22, 23, 24, 25] [26] f a z a_37) ∧ (eS z a_37 t false)) (upd u275 22 t313) ⟨hP, hD, (mI_f hI (fI_st hI.1 22 (kb_any _) (by decide) (by decide))), (mE_f hE (by decide)), (mZ_f hZ rfl), (eS_f hk0 (by decide) (by decide))⟩ (fun f_316 ef_316 hq => ?_)
                                obtain ⟨hP, hD, hI, hE, hZ, hk0⟩ := hq
                                refine lv_goto (tgt := 198) hx hb dX12_tells_348 (by decide) ?_
                                exact ihlp53 (jj + 1) (cc + 1) f_316 _ _ _ y51 (by first | exact kn7_ml hmlp53 | (have w1 := hmlp53; omega)) hI hE hZ hk0 b55 (by rw [(show f_316 22 = t313 from kn7_u1 ef_316 rfl)]; exact hg315) (hnx.elim (fun q => Or.inl ⟨q.1, q.2.2.symm⟩) (fun q => Or.inr ⟨q.1, by first | exact kn7_sl q.2 | (have w1 := q.2; omega)⟩)) (by rw [lastOf_s, ct_b (mr_n hr263 c311)]; exact htd) (by first | exact Nat.succ_le_of_lt hcs.1 | (have w1 := hcs.1; omega)) hP hD hS (lv_sub hl [4, 5, 6, 7, 8, 9, 10] rfl)
                              · have b317 : kb 0 bq261 0 := kb_eq c311 kc_0
                                refine lv_lload hx hb dX12_tells_308 (lv_at hl 2 rfl) ?_
                                refine lv_lconst (v := 0) hx hb dX12_tells_310 (by decide) ?_
                                refine W.lcmp hx hb dX12_tells_311 ?_
                                refine lv_topi (fun t318 et318 => ?_)
                                refine lv_if_ge (tgt := 319) hx hb dX12_tells_312 (by decide) (fun c319 => ?_) (fun c319 => ?_)
                                · have h320 := klc_ge (et318 ▸ c319)
                                  have b321 : kbl 0 v255 9223372036854775807 := klr_le2 h320 kcl_0 (kbl_any v255)
                                  refine lv_lload hx hb dX12_tells_319 (lv_at hl 2 rfl) ?_
                                  refine lv_iload hx hb dX12_tells_321 (lv_at hl 9 rfl) ?_
                                  refine lv_i2l hx hb dX12_tells_323 rfl ?_
                                  refine lv_topl (fun t322 et322 => ?_)
                                  have b323 : kbl 0 t322 20 := kbl_eq et322 (kbl_i2l bhi)
                                  refine W.lcmp hx hb dX12_tells_324 ?_
                                  refine lv_topi (fun t324 et324 => ?_)
                                  refine lv_if_le (tgt := 334) hx hb dX12_tells_325 (by decide) (fun c325 => ?_) (fun c325 => ?_)
                                  · have h326 := klc_le (et324 ▸ c325)
                                    have b327 : kbl 0 v255 20 := klr_le1 h326 b321 b323
                                    refine lv_lload hx hb dX12_tells_334 (lv_at hl 2 rfl) ?_
                                    refine lv_lstore (lv' := [(6, .long v255), (12, .int 1), (11, .int bq261), (9, .long v255), (8, .int 2), (0, .ref o), (1, .int hd), (2, .int bd), (3, .int pt), (4, .int hi), (5, .int wo)]) hx hb dX12_tells_336 hl (by decide) rfl (fun ls hl => ?_)
                                    refine lv_aload_n hx hb dX12_tells_338 rfl (lv_at hl 5 rfl) ?_
                                    refine lv_dup hx hb dX12_tells_339 rfl ?_
                                    refine va_get (D := D) (ci := 12) (v := .int (u275 22)) (C := RX12) (T := TX12) (N := 48) hx hb hg inC12 hown hK hP 0 rfl rfl 22 (by decide) (hg _ wt5_182) (fun _ h9 => h9) rfl dX12_tells_340 ?_
                                    refine k_top (z := gv277) egv277.symm ?_
                                    refine lv_iconst (v := 1) hx hb dX12_tells_343 (by decide) ?_
                                    refine lv_iadd hx hb dX12_tells_344 ?_
                                    refine lv_topi (fun t328 et328 => ?_)
                                    have b329 : kb 1 t328 2802 := kb_eq et328 (kb_add b279 kc_1 (by decide) (by decide))
                                    have qt328 : t328.toInt = gv277.toInt + 1 := by rw [et328]; exact kt_addc b279 kc_1 (by decide) (by decide)
                                    have hg330 : t328.toInt = 400 * (t : Int) + ((jj + 1 : Nat) : Int) := by first | exact kn7_go qt328 hg278 | (rw [qt328, hg278]; omega)
                                    refine va_put (D := D) (ci := 12) (v := .int t328) (ty := .int) (C := RX12) (T := TX12) (N := 48) hx hb hg inC12 tyX12 tyX12_ok nmX12 hown hK hP hD hS 0 rfl rfl 22 (by decide) (hg _ wt5_182) (fun _ h9 => h9) rfl (by decide +kernel) rfl rfl (Nat.le_of_ble_eq_true rfl) dX12_tells_345 (fun H locs hP hD hS => ?_)
                                    have hP : va_P D vwCl (mW K o r (upd u275 22 t328) a_37 g) H := hP
                                    have hD : va_D A (mW K o r (upd u275 22 t328) a_37 g) := hD
                                    refine k_gen (P := fun z => va_P D vwCl (mW K o r z a_37 g) H ∧ va_D A (mW K o r z a_37 g) ∧ (mI z a_37) ∧ (mE (XR []) f a z a_37) ∧ (mZ [22, 23, 24, 25] [26] f a z a_37) ∧ (eS z a_37 t false)) (upd u275 22 t328) ⟨hP, hD, (mI_f hI (fI_st hI.1 22 (kb_any _) (by decide) (by decide))), (mE_f hE (by decide)), (mZ_f hZ rfl), (eS_f hk0 (by decide) (by decide))⟩ (fun f_331 ef_331 hq => ?_)
                                    obtain ⟨hP, hD, hI, hE, hZ, hk0⟩ := hq
                                    refine lv_goto (tgt := 198) hx hb dX12_tells_348 (by decide) ?_
                                    exact ihlp53 (jj + 1) (cc + 1) f_331 _ _ _ v255 (by first | exact kn7_ml hmlp53 | (have w1 := hmlp53; omega)) hI hE hZ hk0 b327 (by rw [(show f_331 22 = t328 from kn7_u1 ef_331 rfl)]; exact hg330) (hnx.elim (fun q => Or.inl ⟨q.1, q.2.2.symm⟩) (fun q => Or.inr ⟨q.1, by first | exact kn7_sl q.2 | (have w1 := q.2; omega)⟩)) (by rw [lastOf_s, ct_y (hhk.trans (by rw [← c297]; decide +kernel)) (by have w1 := mt_1 hr282 c304; rw [kb_11 b296] at w1; exact w1) (mr_s hr263 c311)]; show (v255 : Int64).toInt = max 0 (min hi.toInt (v255.toInt)); have w0 := bhi.1; have k0 : (0 : Int64).toInt = 0 := (by decide +kernel); have k1 : (1 : Int64).toInt = 1 := (by decide +kernel); have k9t322 : t322.toInt = hi.toInt := (congrArg Int64.toInt et322).trans (kt_i2l _); omega) (by first | exact Nat.succ_le_of_lt hcs.1 | (have w1 := hcs.1; omega)) hP hD hS (lv_sub hl [0, 5, 6, 7, 8, 9, 10] rfl)
                                  · have h332 := klc_nle (et324 ▸ c325)
                                    have b333 : kbl 1 v255 9223372036854775807 := klr_lt2 h332 b323 b321 (by decide)
                                    refine lv_iload hx hb dX12_tells_328 (lv_at hl 9 rfl) ?_
                                    refine lv_i2l hx hb dX12_tells_330 rfl ?_
                                    refine lv_topl (fun t334 et334 => ?_)
                                    have b335 : kbl 0 t334 20 := kbl_eq et334 (kbl_i2l bhi)
                                    refine lv_goto (tgt := 336) hx hb dX12_tells_331 (by decide) ?_
                                    refine lv_lstore (lv' := [(6, .long t334), (12, .int 1), (11, .int bq261), (9, .long v255), (8, .int 2), (0, .ref o), (1, .int hd), (2, .int bd), (3, .int pt), (4, .int hi), (5, .int wo)]) hx hb dX12_tells_336 hl (by decide) rfl (fun ls hl => ?_)
                                    refine lv_aload_n hx hb dX12_tells_338 rfl (lv_at hl 5 rfl) ?_
                                    refine lv_dup hx hb dX12_tells_339 rfl ?_
                                    refine va_get (D := D) (ci := 12) (v := .int (u275 22)) (C := RX12) (T := TX12) (N := 48) hx hb hg inC12 hown hK hP 0 rfl rfl 22 (by decide) (hg _ wt5_182) (fun _ h9 => h9) rfl dX12_tells_340 ?_
                                    refine k_top (z := gv277) egv277.symm ?_
                                    refine lv_iconst (v := 1) hx hb dX12_tells_343 (by decide) ?_
                                    refine lv_iadd hx hb dX12_tells_344 ?_
                                    refine lv_topi (fun t336 et336 => ?_)
                                    have b337 : kb 1 t336 2802 := kb_eq et336 (kb_add b279 kc_1 (by decide) (by decide))
                                    have qt336 : t336.toInt = gv277.toInt + 1 := by rw [et336]; exact kt_addc b279 kc_1 (by decide) (by decide)
                                    have hg338 : t336.toInt = 400 * (t : Int) + ((jj + 1 : Nat) : Int) := by first | exact kn7_go qt336 hg278 | (rw [qt336, hg278]; omega)
                                    refine va_put (D := D) (ci := 12) (v := .int t336) (ty := .int) (C := RX12) (T := TX12) (N := 48) hx hb hg inC12 tyX12 tyX12_ok nmX12 hown hK hP hD hS 0 rfl rfl 22 (by decide) (hg _ wt5_182) (fun _ h9 => h9) rfl (by decide +kernel) rfl rfl (Nat.le_of_ble_eq_true rfl) dX12_tells_345 (fun H locs hP hD hS => ?_)
                                    have hP : va_P D vwCl (mW K o r (upd u275 22 t336) a_37 g) H := hP
                                    have hD : va_D A (mW K o r (upd u275 22 t336) a_37 g) := hD
                                    refine k_gen (P := fun z => va_P D vwCl (mW K o r z a_37 g) H ∧ va_D A (mW K o r z a_37 g) ∧ (mI z a_37) ∧ (mE (XR []) f a z a_37) ∧ (mZ [22, 23, 24, 25] [26] f a z a_37) ∧ (eS z a_37 t false)) (upd u275 22 t336) ⟨hP, hD, (mI_f hI (fI_st hI.1 22 (kb_any _) (by decide) (by decide))), (mE_f hE (by decide)), (mZ_f hZ rfl), (eS_f hk0 (by decide) (by decide))⟩ (fun f_339 ef_339 hq => ?_)
                                    obtain ⟨hP, hD, hI, hE, hZ, hk0⟩ := hq
                                    refine lv_goto (tgt := 198) hx hb dX12_tells_348 (by decide) ?_
                                    exact ihlp53 (jj + 1) (cc + 1) f_339 _ _ _ t334 (by first | exact kn7_ml hmlp53 | (have w1 := hmlp53; omega)) hI hE hZ hk0 b335 (by rw [(show f_339 22 = t336 from kn7_u1 ef_339 rfl)]; exact hg338) (hnx.elim (fun q => Or.inl ⟨q.1, q.2.2.symm⟩) (fun q => Or.inr ⟨q.1, by first | exact kn7_sl q.2 | (have w1 := q.2; omega)⟩)) (by rw [lastOf_s, ct_y (hhk.trans (by rw [← c297]; decide +kernel)) (by have w1 := mt_1 hr282 c304; rw [kb_11 b296] at w1; exact w1) (mr_s hr263 c311)]; show (t334 : Int64).toInt = max 0 (min hi.toInt (v255.toInt)); have w0 := bhi.1; have k0 : (0 : Int64).toInt = 0 := (by decide +kernel); have k1 : (1 : Int64).toInt = 1 := (by decide +kernel); have k9 : t334.toInt = hi.toInt := (congrArg Int64.toInt et334).trans (kt_i2l _); have k9t322 : t322.toInt = hi.toInt := (congrArg Int64.toInt et322).trans (kt_i2l _); have k9t334 : t334.toInt = hi.toInt := (congrArg Int64.toInt et334).trans (kt_i2l _); omega) (by first | exact Nat.succ_le_of_lt hcs.1 | (have w1 := hcs.1; omega)) hP hD hS (lv_sub hl [0, 5, 6, 7, 8, 9, 10] rfl)
                                · have h340 := klc_nge (et318 ▸ c319)
                                  have b341 : kbl (-9223372036854775808) v255 (-1) := klr_lt1 h340 (kbl_any v255) kcl_0 (by decide)
                                  refine lv_lconst (v := 0) hx hb dX12_tells_315 (by decide) ?_
                                  refine lv_goto (tgt := 336) hx hb dX12_tells_316 (by decide) ?_
                                  refine lv_lstore (lv' := [(6, .long 0), (12, .int 1), (11, .int bq261), (9, .long v255), (8, .int 2), (0, .ref o), (1, .int hd), (2, .int bd), (3, .int pt), (4, .int hi), (5, .int wo)]) hx hb dX12_tells_336 hl (by decide) rfl (fun ls hl => ?_)
                                  refine lv_aload_n hx hb dX12_tells_338 rfl (lv_at hl 5 rfl) ?_
                                  refine lv_dup hx hb dX12_tells_339 rfl ?_
                                  refine va_get (D := D) (ci := 12) (v := .int (u275 22)) (C := RX12) (T := TX12) (N := 48) hx hb hg inC12 hown hK hP 0 rfl rfl 22 (by decide) (hg _ wt5_182) (fun _ h9 => h9) rfl dX12_tells_340 ?_
                                  refine k_top (z := gv277) egv277.symm ?_
                                  refine lv_iconst (v := 1) hx hb dX12_tells_343 (by decide) ?_
                                  refine lv_iadd hx hb dX12_tells_344 ?_
                                  refine lv_topi (fun t342 et342 => ?_)
                                  have b343 : kb 1 t342 2802 := kb_eq et342 (kb_add b279 kc_1 (by decide) (by decide))
                                  have qt342 : t342.toInt = gv277.toInt + 1 := by rw [et342]; exact kt_addc b279 kc_1 (by decide) (by decide)
                                  have hg344 : t342.toInt = 400 * (t : Int) + ((jj + 1 : Nat) : Int) := by first | exact kn7_go qt342 hg278 | (rw [qt342, hg278]; omega)
                                  refine va_put (D := D) (ci := 12) (v := .int t342) (ty := .int) (C := RX12) (T := TX12) (N := 48) hx hb hg inC12 tyX12 tyX12_ok nmX12 hown hK hP hD hS 0 rfl rfl 22 (by decide) (hg _ wt5_182) (fun _ h9 => h9) rfl (by decide +kernel) rfl rfl (Nat.le_of_ble_eq_true rfl) dX12_tells_345 (fun H locs hP hD hS => ?_)
                                  have hP : va_P D vwCl (mW K o r (upd u275 22 t342) a_37 g) H := hP
                                  have hD : va_D A (mW K o r (upd u275 22 t342) a_37 g) := hD
                                  refine k_gen (P := fun z => va_P D vwCl (mW K o r z a_37 g) H ∧ va_D A (mW K o r z a_37 g) ∧ (mI z a_37) ∧ (mE (XR []) f a z a_37) ∧ (mZ [22, 23, 24, 25] [26] f a z a_37) ∧ (eS z a_37 t false)) (upd u275 22 t342) ⟨hP, hD, (mI_f hI (fI_st hI.1 22 (kb_any _) (by decide) (by decide))), (mE_f hE (by decide)), (mZ_f hZ rfl), (eS_f hk0 (by decide) (by decide))⟩ (fun f_345 ef_345 hq => ?_)
                                  obtain ⟨hP, hD, hI, hE, hZ, hk0⟩ := hq
                                  refine lv_goto (tgt := 198) hx hb dX12_tells_348 (by decide) ?_
                                  exact ihlp53 (jj + 1) (cc + 1) f_345 _ _ _ 0 (by first | exact kn7_ml hmlp53 | (have w1 := hmlp53; omega)) hI hE hZ hk0 (kbl_w kcl_0 (by decide) (by decide)) (by rw [(show f_345 22 = t342 from kn7_u1 ef_345 rfl)]; exact hg344) (hnx.elim (fun q => Or.inl ⟨q.1, q.2.2.symm⟩) (fun q => Or.inr ⟨q.1, by first | exact kn7_sl q.2 | (have w1 := q.2; omega)⟩)) (by rw [lastOf_s, ct_y (hhk.trans (by rw [← c297]; decide +kernel)) (by have w1 := mt_1 hr282 c304; rw [kb_11 b296] at w1; exact w1) (mr_s hr263 c311)]; show (0 : Int64).toInt = max 0 (min hi.toInt (v255.toInt)); have w0 := bhi.1; have k0 : (0 : Int64).toInt = 0 := (by decide +kernel); have k1 : (1 : Int64).toInt = 1 := (by decide +kernel); omega) (by first | exact Nat.succ_le_of_lt hcs.1 | (have w1 := hcs.1; omega)) hP hD hS (lv_sub hl [0, 5, 6, 7, 8, 9, 10] rfl)
                  · exact kb_dj c253 kc_2 kc_4 (by decide)
              · subst hj
                refine lv_aload_n hx hb dX12_tells_198 rfl (lv_at hl 1 rfl) ?_
                refine va_get (D := D) (ci := 12) (v := .int (F52 22)) (C := RX12) (T := TX12) (N := 48) hx hb hg inC12 hown hK hP 0 rfl rfl 22 (by decide) (hg _ wt5_182) (fun _ h9 => h9) rfl dX12_tells_199 ?_
                refine k_top (z := gv56) egv56.symm ?_
                refine lv_aload_n hx hb dX12_tells_202 rfl (lv_at hl 1 rfl) ?_
                refine va_get (D := D) (ci := 12) (v := .int (F52 23)) (C := RX12) (T := TX12) (N := 48) hx hb hg inC12 hown hK hP 0 rfl rfl 23 (by decide) (hg _ wt5_183) (fun _ h9 => h9) rfl dX12_tells_203 ?_
                refine lv_topi (fun t346 et346 => ?_)
                refine lv_icmp_ge (tgt := 351) hx hb dX12_tells_206 (by decide) (fun c347 => ?_) (fun c347 => ?_)
                · exact absurd (kc_le c347) (by have w1 := congrArg Int32.toInt et346.symm; have w2 := hk0.2.1; have w3 := hg57; have w4 := mC_lS hk0 (ne_0 (tq_y hp2 (x := 2) (y := 2005) (by decide +kernel) (by decide +kernel) h1) (by decide +kernel)); omega)
                · have h348 := (kc_nle c347)
                  have b349 : kb 1 t346 2147483647 := kr_lt2 h348 b240 (kb_any t346) (by decide)
                  refine lv_aload_n hx hb dX12_tells_209 rfl (lv_at hl 1 rfl) ?_
                  refine lv_aload_n hx hb dX12_tells_210 rfl (lv_at hl 1 rfl) ?_
                  refine va_get (D := D) (ci := 12) (v := .int (F52 22)) (C := RX12) (T := TX12) (N := 48) hx hb hg inC12 hown hK hP 0 rfl rfl 22 (by decide) (hg _ wt5_182) (fun _ h9 => h9) rfl dX12_tells_211 ?_
                  refine k_top (z := gv56) egv56.symm ?_
                  refine kI.callV (As := [.int gv56]) (rest := []) ⟨hx, hb, hml, hown, hg⟩ (m_codeAt l o r F52 a_37 g hI gv56  t (i) false hk0 hg57) (cwV 1 hg (kgV wt7_47 wt7_49 wp5_8 wt1_14 wt7_50) rfl rfl rfl (by decide +kernel) ⟨by decide, by decide⟩) hK hP hD hS hA mIs [] rfl (wr := []) rfl rfl rfl (fun i h => by cases h) 0 12 rfl rfl rfl hl.1 rfl (Nat.le_of_ble_eq_true rfl) dX12_tells_214 ⟨Nat.le_refl _, Nat.le_refl _⟩ (fun v351 u352 H locs hw350 hP hD hS => ?_)
                  have hP : va_P D vwCl (mW K o r F52 a_37 g) H := hP
                  have hD : va_D A (mW K o r F52 a_37 g) := hD
                  refine k_top (z := 2) (hw350.2.trans (tq_y hp2 (x := 2) (y := 2005) (by decide +kernel) (by decide +kernel) h1)) ?_
                  refine lv_istore (lv' := [(8, .int 2), (6, .long y51), (0, .ref o), (1, .int hd), (2, .int bd), (3, .int pt), (4, .int hi), (5, .int wo)]) hx hb dX12_tells_217 hl (by decide) rfl (fun ls hl => ?_)
                  refine lv_aload_n hx hb dX12_tells_219 rfl (lv_at hl 2 rfl) ?_
                  refine lv_iconst (v := 0) hx hb dX12_tells_220 (by decide) ?_
                  refine va_put (D := D) (ci := 12) (v := .int 0) (ty := .boolean) (C := RX12) (T := TX12) (N := 48) hx hb hg inC12 tyX12 tyX12_ok nmX12 hown hK hP hD hS 0 rfl rfl 24 (by decide) (hg _ wt5_184) (fun _ h9 => h9) rfl (by decide +kernel) rfl rfl (Nat.le_of_ble_eq_true rfl) dX12_tells_221 (fun H locs hP hD hS => ?_)
                  have hP : va_P D vwCl (mW K o r (upd F52 24 0) a_37 g) H := hP
                  have hD : va_D A (mW K o r (upd F52 24 0) a_37 g) := hD
                  refine k_gen (P := fun z => va_P D vwCl (mW K o r z a_37 g) H ∧ va_D A (mW K o r z a_37 g) ∧ (mI z a_37) ∧ (mE (XR []) f a z a_37) ∧ (mZ [22, 23, 24, 25] [26] f a z a_37) ∧ (eS z a_37 t false)) (upd F52 24 0) ⟨hP, hD, (mI_f hI (fI_st hI.1 24 kc_0 (by decide) (by decide))), (mE_f hE (by decide)), (mZ_f hZ rfl), (eS_f hk0 (by decide) (by decide))⟩ (fun f_353 ef_353 hq => ?_)
                  obtain ⟨hP, hD, hI, hE, hZ, hk0⟩ := hq
                  refine lv_aload_n hx hb dX12_tells_224 rfl (lv_at hl 2 rfl) ?_
                  refine lv_dup hx hb dX12_tells_225 rfl ?_
                  refine va_get (D := D) (ci := 12) (v := .int (f_353 22)) (C := RX12) (T := TX12) (N := 48) hx hb hg inC12 hown hK hP 0 rfl rfl 22 (by decide) (hg _ wt5_182) (fun _ h9 => h9) rfl dX12_tells_226 ?_
                  refine k_top (z := gv56) ((show f_353 22 = F52 22 from kn7_u1 ef_353 rfl).trans egv56.symm) ?_
                  refine lv_iconst (v := 1) hx hb dX12_tells_229 (by decide) ?_
                  refine lv_iadd hx hb dX12_tells_230 ?_
                  refine lv_topi (fun t354 et354 => ?_)
                  have b355 : kb 1 t354 2800 := kb_eq et354 (kb_add b240 kc_1 (by decide) (by decide))
                  have qt354 : t354.toInt = gv56.toInt + 1 := by rw [et354]; exact kt_addc b240 kc_1 (by decide) (by decide)
                  have hg356 : t354.toInt = 400 * (t : Int) + ((i + 1 : Nat) : Int) := by first | exact kn7_go qt354 hg57 | (rw [qt354, hg57]; omega)
                  refine va_put (D := D) (ci := 12) (v := .int t354) (ty := .int) (C := RX12) (T := TX12) (N := 48) hx hb hg inC12 tyX12 tyX12_ok nmX12 hown hK hP hD hS 0 rfl rfl 22 (by decide) (hg _ wt5_182) (fun _ h9 => h9) rfl (by decide +kernel) rfl rfl (Nat.le_of_ble_eq_true rfl) dX12_tells_231 (fun H locs hP hD hS => ?_)
                  have hP : va_P D vwCl (mW K o r (upd f_353 22 t354) a_37 g) H := hP
                  have hD : va_D A (mW K o r (upd f_353 22 t354) a_37 g) := hD
                  refine k_gen (P := fun z => va_P D vwCl (mW K o r z a_37 g) H ∧ va_D A (mW K o r z a_37 g) ∧ (mI z a_37) ∧ (mE (XR []) f a z a_37) ∧ (mZ [22, 23, 24, 25] [26] f a z a_37) ∧ (eS z a_37 t false)) (upd f_353 22 t354) ⟨hP, hD, (mI_f hI (fI_st hI.1 22 (kb_any _) (by decide) (by decide))), (mE_f hE (by decide)), (mZ_f hZ rfl), (eS_f hk0 (by decide) (by decide))⟩ (fun f_357 ef_357 hq => ?_)
                  obtain ⟨hP, hD, hI, hE, hZ, hk0⟩ := hq
                  refine lv_iload hx hb dX12_tells_234 (lv_at hl 0 rfl) ?_
                  refine lv_iconst (v := 4) hx hb dX12_tells_236 (by decide) ?_
                  refine lv_icmp_ne (tgt := 244) hx hb dX12_tells_237 (by decide) (fun c358 => ?_) (fun c358 => ?_)
                  · refine lv_aload_n hx hb dX12_tells_244 rfl (lv_at hl 2 rfl) ?_
                    refine lv_iconst (v := 1) hx hb dX12_tells_245 (by decide) ?_
                    refine kL.callV (As := [.int 1]) (rest := []) ⟨hx, hb, hml, hown, hg⟩ ((n_allSum 8) l o r f_357 a_37 g hI 1 (kb_w kc_1 (by decide) (by decide)) t (i + 1) (jj) false T (lwW (a 2) bd pt) ((DD (a 2 106).toInt.toNat).2.2.2.2.1 cc) hk0 (by rw [(show f_357 22 = t354 from kn7_u1 ef_357 rfl)]; exact hg356) hp2 (hp3 f_357) hs) (cwV 1 hg (kgV wt7_51 wt7_53 wp5_9 wt1_14 wt7_54) rfl rfl rfl (by decide +kernel) ⟨by decide, by decide⟩) hK hP hD hS hA mIs [] rfl (wr := []) rfl rfl rfl (fun i h => by cases h) 0 12 rfl rfl rfl hl.1 rfl (Nat.le_of_ble_eq_true rfl) dX12_tells_246 ⟨Nat.le_refl _, Nat.le_refl _⟩ (fun v360 u361 H locs hw359 hP hD hS => ?_)
                    have hP : va_P D vwCl (mW K o r u361 a_37 g) H := hP
                    have hD : va_D A (mW K o r u361 a_37 g) := hD
                    have hI : mI u361 a_37 := hw359.2.1
                    have eE362 : fE [22, 24] f_357 u361 := hw359.2.2.1
                    have hE : mE (XR []) f a u361 a_37 := mE_fE hE eE362 (by decide)
                    have hZ : mZ [22, 23, 24, 25] [26] f a u361 a_37 := mZ_fE hZ (fE_w (by decide) eE362)
                    have hk0 : eS u361 a_37 t false := eS_fE eE362 hk0 (by decide) (by decide)
                    obtain ⟨gv363, egv363⟩ : ∃ z : Int32, z = u361 22 := ⟨_, rfl⟩
                    have hg364 : gv363.toInt = 400 * (t : Int) + ((jj : Nat) : Int) := by rw [egv363]; exact hw359.2.2.2.1
                    have b365 : kb 0 gv363 2801 := kb_go1 hk0 (by have w1 := hk0.2.2.2.2; omega) hg364
                    obtain ⟨bq366, ebq366⟩ : ∃ z : Int32, z = u361 24 := ⟨_, rfl⟩
                    have b367 : kb 0 bq366 1 := kb_eq ebq366 (fI_at hI.1 24 (by decide) (by decide))
                    have hr368 : mRs 1 0 (((DD (a 2 106).toInt.toNat).2.2.2.2.1 cc) (lwW (a 2) bd pt)) bq366 v360.toInt := by have w1 := hw359.2.2.2.2; rw [((show f_357 24 = f_353 24 from kn7_u1 ef_357 rfl).trans (show f_353 24 = 0 from kn7_u1 ef_353 rfl)), ← ebq366] at w1; exact w1
                    refine lv_lstore (lv' := [(9, .long v360), (8, .int 2), (6, .long y51), (0, .ref o), (1, .int hd), (2, .int bd), (3, .int pt), (4, .int hi), (5, .int wo)]) hx hb dX12_tells_249 hl (by decide) rfl (fun ls hl => ?_)
                    refine lv_aload_n hx hb dX12_tells_251 rfl (lv_at hl 3 rfl) ?_
                    refine va_get (D := D) (ci := 12) (v := .int (u361 24)) (C := RX12) (T := TX12) (N := 48) hx hb hg inC12 hown hK hP 0 rfl rfl 24 (by decide) (hg _ wt5_184) (fun _ h9 => h9) rfl dX12_tells_252 ?_
                    refine k_top (z := bq366) ebq366.symm ?_
                    refine lv_istore (lv' := [(11, .int bq366), (9, .long v360), (8, .int 2), (6, .long y51), (0, .ref o), (1, .int hd), (2, .int bd), (3, .int pt), (4, .int hi), (5, .int wo)]) hx hb dX12_tells_255 hl (by decide) rfl (fun ls hl => ?_)
                    refine lv_aload_n hx hb dX12_tells_257 rfl (lv_at hl 4 rfl) ?_
                    refine lv_iconst (v := 0) hx hb dX12_tells_258 (by decide) ?_
                    refine va_put (D := D) (ci := 12) (v := .int 0) (ty := .boolean) (C := RX12) (T := TX12) (N := 48) hx hb hg inC12 tyX12 tyX12_ok nmX12 hown hK hP hD hS 0 rfl rfl 24 (by decide) (hg _ wt5_184) (fun _ h9 => h9) rfl (by decide +kernel) rfl rfl (Nat.le_of_ble_eq_true rfl) dX12_tells_259 (fun H locs hP hD hS => ?_)
                    have hP : va_P D vwCl (mW K o r (upd u361 24 0) a_37 g) H := hP
                    have hD : va_D A (mW K o r (upd u361 24 0) a_37 g) := hD
                    refine k_gen (P := fun z => va_P D vwCl (mW K o r z a_37 g) H ∧ va_D A (mW K o r z a_37 g) ∧ (mI z a_37) ∧ (mE (XR []) f a z a_37) ∧ (mZ [22, 23, 24, 25] [26] f a z a_37) ∧ (eS z a_37 t false)) (upd u361 24 0) ⟨hP, hD, (mI_f hI (fI_st hI.1 24 kc_0 (by decide) (by decide))), (mE_f hE (by decide)), (mZ_f hZ rfl), (eS_f hk0 (by decide) (by decide))⟩ (fun f_369 ef_369 hq => ?_)
                    obtain ⟨hP, hD, hI, hE, hZ, hk0⟩ := hq
                    refine lv_aload_n hx hb dX12_tells_262 rfl (lv_at hl 4 rfl) ?_
                    refine lv_iconst (v := 5) hx hb dX12_tells_263 (by decide) ?_
                    refine kI.callV (As := [.int 5]) (rest := []) ⟨hx, hb, hml, hown, hg⟩ (m_passes0 l o r f_369 a_37 g hI 5 (kb_w kc_5 (by decide) (by decide)) t (jj) false hk0 (by rw [((show f_369 22 = u361 22 from kn7_u1 ef_369 rfl).trans egv363.symm)]; exact hg364)) (cwV 1 hg (kgV wt7_63 wt7_65 wp5_12 wt1_14 wt7_66) rfl rfl rfl (by decide +kernel) ⟨by decide, by decide⟩) hK hP hD hS hA mIs [] rfl (wr := []) rfl rfl rfl (fun i h => by cases h) 0 12 rfl rfl rfl hl.1 rfl (Nat.le_of_ble_eq_true rfl) dX12_tells_264 ⟨Nat.le_refl _, Nat.le_refl _⟩ (fun v371 u372 H locs hw370 hP hD hS => ?_)
                    have hP : va_P D vwCl (mW K o r u372 a_37 g) H := hP
                    have hD : va_D A (mW K o r u372 a_37 g) := hD
                    have hI : mI u372 a_37 := hw370.2.1
                    have eE373 : fE [22] f_369 u372 := hw370.2.2.1
                    have hE : mE (XR []) f a u372 a_37 := mE_fE hE eE373 (by decide)
                    have hZ : mZ [22, 23, 24, 25] [26] f a u372 a_37 := mZ_fE hZ (fE_w (by decide) eE373)
                    have hk0 : eS u372 a_37 t false := eS_fE eE373 hk0 (by decide) (by decide)
                    have hz374 := pass_n hw370.2.2.2 (tq_n hp2 (x := 5) (y := 2003) (by decide +kernel) (by decide +kernel) h2)
                    refine k_top (z := 0) hz374.1 ?_
                    obtain ⟨gv375, egv375⟩ : ∃ z : Int32, z = u372 22 := ⟨_, rfl⟩
                    have hg376 : gv375.toInt = 400 * (t : Int) + ((jj : Nat) : Int) := by rw [egv375]; exact hz374.2
                    have b377 : kb 0 gv375 2801 := kb_go1 hk0 (by have w1 := hk0.2.2.2.2; omega) hg376
                    refine lv_if_eq (tgt := 278) hx hb dX12_tells_267 (by decide) (fun c378 => ?_) (fun c378 => ?_)
                    · refine lv_iconst (v := 1) hx hb dX12_tells_278 (by decide) ?_
                      refine lv_goto (tgt := 283) hx hb dX12_tells_279 (by decide) ?_
                      refine lv_istore (lv' := [(12, .int 1), (11, .int bq366), (9, .long v360), (8, .int 2), (6, .long y51), (0, .ref o), (1, .int hd), (2, .int bd), (3, .int pt), (4, .int hi), (5, .int wo)]) hx hb dX12_tells_283 hl (by decide) rfl (fun ls hl => ?_)
                      refine lv_iload hx hb dX12_tells_285 (lv_at hl 3 rfl) ?_
                      refine lv_iload_n hx hb dX12_tells_287 rfl (lv_at hl 6 rfl) ?_
                      refine lv_icmp_ne (tgt := 338) hx hb dX12_tells_288 (by decide) (fun c379 => ?_) (fun c379 => ?_)
                      · refine lv_aload_n hx hb dX12_tells_338 rfl (lv_at hl 5 rfl) ?_
                        refine lv_dup hx hb dX12_tells_339 rfl ?_
                        refine va_get (D := D) (ci := 12) (v := .int (u372 22)) (C := RX12) (T := TX12) (N := 48) hx hb hg inC12 hown hK hP 0 rfl rfl 22 (by decide) (hg _ wt5_182) (fun _ h9 => h9) rfl dX12_tells_340 ?_
                        refine k_top (z := gv375) egv375.symm ?_
                        refine lv_iconst (v := 1) hx hb dX12_tells_343 (by decide) ?_
                        refine lv_iadd hx hb dX12_tells_344 ?_
                        refine lv_topi (fun t380 et380 => ?_)
                        have b381 : kb 1 t380 2802 := kb_eq et380 (kb_add b377 kc_1 (by decide) (by decide))
                        have qt380 : t380.toInt = gv375.toInt + 1 := by rw [et380]; exact kt_addc b377 kc_1 (by decide) (by decide)
                        have hg382 : t380.toInt = 400 * (t : Int) + ((jj + 1 : Nat) : Int) := by first | exact kn7_go qt380 hg376 | (rw [qt380, hg376]; omega)
                        refine va_put (D := D) (ci := 12) (v := .int t380) (ty := .int) (C := RX12) (T := TX12) (N := 48) hx hb hg inC12 tyX12 tyX12_ok nmX12 hown hK hP hD hS 0 rfl rfl 22 (by decide) (hg _ wt5_182) (fun _ h9 => h9) rfl (by decide +kernel) rfl rfl (Nat.le_of_ble_eq_true rfl) dX12_tells_345 (fun H locs hP hD hS => ?_)
                        have hP : va_P D vwCl (mW K o r (upd u372 22 t380) a_37 g) H := hP
                        have hD : va_D A (mW K o r (upd u372 22 t380) a_37 g) := hD
                        refine k_gen (P := fun z => va_P D vwCl (mW K o r z a_37 g) H ∧ va_D A (mW K o r z a_37 g) ∧ (mI z a_37) ∧ (mE (XR []) f a z a_37) ∧ (mZ [22, 23, 24, 25] [26] f a z a_37) ∧ (eS z a_37 t false)) (upd u372 22 t380) ⟨hP, hD, (mI_f hI (fI_st hI.1 22 (kb_any _) (by decide) (by decide))), (mE_f hE (by decide)), (mZ_f hZ rfl), (eS_f hk0 (by decide) (by decide))⟩ (fun f_383 ef_383 hq => ?_)
                        obtain ⟨hP, hD, hI, hE, hZ, hk0⟩ := hq
                        refine lv_goto (tgt := 198) hx hb dX12_tells_348 (by decide) ?_
                        exact ihlp53 (jj + 1) (cc + 1) f_383 _ _ _ y51 (by first | exact kn7_ml hmlp53 | (have w1 := hmlp53; omega)) hI hE hZ hk0 b55 (by rw [(show f_383 22 = t380 from kn7_u1 ef_383 rfl)]; exact hg382) (hnx.elim (fun q => Or.inl ⟨q.1, q.2.2.symm⟩) (fun q => Or.inr ⟨q.1, by first | exact kn7_sl q.2 | (have w1 := q.2; omega)⟩)) (by rw [lastOf_s, ct_n (fun q => c379 (Int32.toInt_inj.mp (by first | exact (kHd_j (hhk.symm.trans q) bhd).trans (by decide +kernel) | (have w1 := kHd_j (hhk.symm.trans q) bhd; have w2 : (2 : Int32).toInt = 2 := (by decide +kernel); omega))))]; exact htd) (by first | exact Nat.succ_le_of_lt hcs.1 | (have w1 := hcs.1; omega)) hP hD hS (lv_sub hl [4, 5, 6, 7, 8, 9, 10] rfl)
                      · have b384 : kb 2 hd 2 := kb_eq c379.symm kc_2
                        refine lv_iload hx hb dX12_tells_291 (lv_at hl 0 rfl) ?_
                        refine lv_if_eq (tgt := 338) hx hb dX12_tells_293 (by decide) (fun c385 => ?_) (fun c385 => ?_)
                        · exact kb_dj c385 kc_1 kc_0 (by decide)
                        · refine lv_aload_n hx hb dX12_tells_296 rfl (lv_at hl 5 rfl) ?_
                          refine va_get (D := D) (ci := 12) (v := .int (u372 24)) (C := RX12) (T := TX12) (N := 48) hx hb hg inC12 hown hK hP 0 rfl rfl 24 (by decide) (hg _ wt5_184) (fun _ h9 => h9) rfl dX12_tells_297 ?_
                          refine k_top (z := 0) ((eE373 24 (by decide)).trans (show f_369 24 = 0 from kn7_u1 ef_369 rfl)) ?_
                          refine lv_if_ne (tgt := 338) hx hb dX12_tells_300 (by decide) (fun c386 => ?_) (fun c386 => ?_)
                          · exact kb_nsame c386 kc_0 kc_0
                          · refine lv_iload hx hb dX12_tells_303 (lv_at hl 1 rfl) ?_
                            refine lv_if_ne (tgt := 338) hx hb dX12_tells_305 (by decide) (fun c387 => ?_) (fun c387 => ?_)
                            · have b388 : kb 1 bq366 1 := kr_nel c387 b367 kc_0 (by decide)
                              refine lv_aload_n hx hb dX12_tells_338 rfl (lv_at hl 5 rfl) ?_
                              refine lv_dup hx hb dX12_tells_339 rfl ?_
                              refine va_get (D := D) (ci := 12) (v := .int (u372 22)) (C := RX12) (T := TX12) (N := 48) hx hb hg inC12 hown hK hP 0 rfl rfl 22 (by decide) (hg _ wt5_182) (fun _ h9 => h9) rfl dX12_tells_340 ?_
                              refine k_top (z := gv375) egv375.symm ?_
                              refine lv_iconst (v := 1) hx hb dX12_tells_343 (by decide) ?_
                              refine lv_iadd hx hb dX12_tells_344 ?_
                              refine lv_topi (fun t389 et389 => ?_)
                              have b390 : kb 1 t389 2802 := kb_eq et389 (kb_add b377 kc_1 (by decide) (by decide))
                              have qt389 : t389.toInt = gv375.toInt + 1 := by rw [et389]; exact kt_addc b377 kc_1 (by decide) (by decide)
                              have hg391 : t389.toInt = 400 * (t : Int) + ((jj + 1 : Nat) : Int) := by first | exact kn7_go qt389 hg376 | (rw [qt389, hg376]; omega)
                              refine va_put (D := D) (ci := 12) (v := .int t389) (ty := .int) (C := RX12) (T := TX12) (N := 48) hx hb hg inC12 tyX12 tyX12_ok nmX12 hown hK hP hD hS 0 rfl rfl 22 (by decide) (hg _ wt5_182) (fun _ h9 => h9) rfl (by decide +kernel) rfl rfl (Nat.le_of_ble_eq_true rfl) dX12_tells_345 (fun H locs hP hD hS => ?_)
                              have hP : va_P D vwCl (mW K o r (upd u372 22 t389) a_37 g) H := hP
                              have hD : va_D A (mW K o r (upd u372 22 t389) a_37 g) := hD
                              refine k_gen (P := fun z => va_P D vwCl (mW K o r z a_37 g) H ∧ va_D A (mW K o r z a_37 g) ∧ (mI z a_37) ∧ (mE (XR []) f a z a_37) ∧ (mZ [22, 23, 24, 25] [26] f a z a_37) ∧ (eS z a_37 t false)) (upd u372 22 t389) ⟨hP, hD, (mI_f hI (fI_st hI.1 22 (kb_any _) (by decide) (by decide))), (mE_f hE (by decide)), (mZ_f hZ rfl), (eS_f hk0 (by decide) (by decide))⟩ (fun f_392 ef_392 hq => ?_)
                              obtain ⟨hP, hD, hI, hE, hZ, hk0⟩ := hq
                              refine lv_goto (tgt := 198) hx hb dX12_tells_348 (by decide) ?_
                              exact ihlp53 (jj + 1) (cc + 1) f_392 _ _ _ y51 (by first | exact kn7_ml hmlp53 | (have w1 := hmlp53; omega)) hI hE hZ hk0 b55 (by rw [(show f_392 22 = t389 from kn7_u1 ef_392 rfl)]; exact hg391) (hnx.elim (fun q => Or.inl ⟨q.1, q.2.2.symm⟩) (fun q => Or.inr ⟨q.1, by first | exact kn7_sl q.2 | (have w1 := q.2; omega)⟩)) (by rw [lastOf_s, ct_b (mr_n hr368 c387)]; exact htd) (by first | exact Nat.succ_le_of_lt hcs.1 | (have w1 := hcs.1; omega)) hP hD hS (lv_sub hl [4, 5, 6, 7, 8, 9, 10] rfl)
                            · have b393 : kb 0 bq366 0 := kb_eq c387 kc_0
                              refine lv_lload hx hb dX12_tells_308 (lv_at hl 2 rfl) ?_
                              refine lv_lconst (v := 0) hx hb dX12_tells_310 (by decide) ?_
                              refine W.lcmp hx hb dX12_tells_311 ?_
                              refine lv_topi (fun t394 et394 => ?_)
                              refine lv_if_ge (tgt := 319) hx hb dX12_tells_312 (by decide) (fun c395 => ?_) (fun c395 => ?_)
                              · have h396 := klc_ge (et394 ▸ c395)
                                have b397 : kbl 0 v360 9223372036854775807 := klr_le2 h396 kcl_0 (kbl_any v360)
                                refine lv_lload hx hb dX12_tells_319 (lv_at hl 2 rfl) ?_
                                refine lv_iload hx hb dX12_tells_321 (lv_at hl 9 rfl) ?_
                                refine lv_i2l hx hb dX12_tells_323 rfl ?_
                                refine lv_topl (fun t398 et398 => ?_)
                                have b399 : kbl 0 t398 20 := kbl_eq et398 (kbl_i2l bhi)
                                refine W.lcmp hx hb dX12_tells_324 ?_
                                refine lv_topi (fun t400 et400 => ?_)
                                refine lv_if_le (tgt := 334) hx hb dX12_tells_325 (by decide) (fun c401 => ?_) (fun c401 => ?_)
                                · have h402 := klc_le (et400 ▸ c401)
                                  have b403 : kbl 0 v360 20 := klr_le1 h402 b397 b399
                                  refine lv_lload hx hb dX12_tells_334 (lv_at hl 2 rfl) ?_
                                  refine lv_lstore (lv' := [(6, .long v360), (12, .int 1), (11, .int bq366), (9, .long v360), (8, .int 2), (0, .ref o), (1, .int hd), (2, .int bd), (3, .int pt), (4, .int hi), (5, .int wo)]) hx hb dX12_tells_336 hl (by decide) rfl (fun ls hl => ?_)
                                  refine lv_aload_n hx hb dX12_tells_338 rfl (lv_at hl 5 rfl) ?_
                                  refine lv_dup hx hb dX12_tells_339 rfl ?_
                                  refine va_get (D := D) (ci := 12) (v := .int (u372 22)) (C := RX12) (T := TX12) (N := 48) hx hb hg inC12 hown hK hP 0 rfl rfl 22 (by decide) (hg _ wt5_182) (fun _ h9 => h9) rfl dX12_tells_340 ?_
                                  refine k_top (z := gv375) egv375.symm ?_
                                  refine lv_iconst (v := 1) hx hb dX12_tells_343 (by decide) ?_
                                  refine lv_iadd hx hb dX12_tells_344 ?_
                                  refine lv_topi (fun t404 et404 => ?_)
                                  have b405 : kb 1 t404 2802 := kb_eq et404 (kb_add b377 kc_1 (by decide) (by decide))
                                  have qt404 : t404.toInt = gv375.toInt + 1 := by rw [et404]; exact kt_addc b377 kc_1 (by decide) (by decide)
                                  have hg406 : t404.toInt = 400 * (t : Int) + ((jj + 1 : Nat) : Int) := by first | exact kn7_go qt404 hg376 | (rw [qt404, hg376]; omega)
                                  refine va_put (D := D) (ci := 12) (v := .int t404) (ty := .int) (C := RX12) (T := TX12) (N := 48) hx hb hg inC12 tyX12 tyX12_ok nmX12 hown hK hP hD hS 0 rfl rfl 22 (by decide) (hg _ wt5_182) (fun _ h9 => h9) rfl (by decide +kernel) rfl rfl (Nat.le_of_ble_eq_true rfl) dX12_tells_345 (fun H locs hP hD hS => ?_)
                                  have hP : va_P D vwCl (mW K o r (upd u372 22 t404) a_37 g) H := hP
                                  have hD : va_D A (mW K o r (upd u372 22 t404) a_37 g) := hD
                                  refine k_gen (P := fun z => va_P D vwCl (mW K o r z a_37 g) H ∧ va_D A (mW K o r z a_37 g) ∧ (mI z a_37) ∧ (mE (XR []) f a z a_37) ∧ (mZ [22, 23, 24, 25] [26] f a z a_37) ∧ (eS z a_37 t false)) (upd u372 22 t404) ⟨hP, hD, (mI_f hI (fI_st hI.1 22 (kb_any _) (by decide) (by decide))), (mE_f hE (by decide)), (mZ_f hZ rfl), (eS_f hk0 (by decide) (by decide))⟩ (fun f_407 ef_407 hq => ?_)
                                  obtain ⟨hP, hD, hI, hE, hZ, hk0⟩ := hq
                                  refine lv_goto (tgt := 198) hx hb dX12_tells_348 (by decide) ?_
                                  exact ihlp53 (jj + 1) (cc + 1) f_407 _ _ _ v360 (by first | exact kn7_ml hmlp53 | (have w1 := hmlp53; omega)) hI hE hZ hk0 b403 (by rw [(show f_407 22 = t404 from kn7_u1 ef_407 rfl)]; exact hg406) (hnx.elim (fun q => Or.inl ⟨q.1, q.2.2.symm⟩) (fun q => Or.inr ⟨q.1, by first | exact kn7_sl q.2 | (have w1 := q.2; omega)⟩)) (by rw [lastOf_s, ct_y (hhk.trans (by rw [← c379]; decide +kernel)) (by rw [hv3]; rfl) (mr_s hr368 c387)]; show (v360 : Int64).toInt = max 0 (min hi.toInt (v360.toInt)); have w0 := bhi.1; have k0 : (0 : Int64).toInt = 0 := (by decide +kernel); have k1 : (1 : Int64).toInt = 1 := (by decide +kernel); have k9t398 : t398.toInt = hi.toInt := (congrArg Int64.toInt et398).trans (kt_i2l _); omega) (by first | exact Nat.succ_le_of_lt hcs.1 | (have w1 := hcs.1; omega)) hP hD hS (lv_sub hl [0, 5, 6, 7, 8, 9, 10] rfl)
                                · have h408 := klc_nle (et400 ▸ c401)
                                  have b409 : kbl 1 v360 9223372036854775807 := klr_lt2 h408 b399 b397 (by decide)
                                  refine lv_iload hx hb dX12_tells_328 (lv_at hl 9 rfl) ?_
                                  refine lv_i2l hx hb dX12_tells_330 rfl ?_
                                  refine lv_topl (fun t410 et410 => ?_)
                                  have b411 : kbl 0 t410 20 := kbl_eq et410 (kbl_i2l bhi)
                                  refine lv_goto (tgt := 336) hx hb dX12_tells_331 (by decide) ?_
                                  refine lv_lstore (lv' := [(6, .long t410), (12, .int 1), (11, .int bq366), (9, .long v360), (8, .int 2), (0, .ref o), (1, .int hd), (2, .int bd), (3, .int pt), (4, .int hi), (5, .int wo)]) hx hb dX12_tells_336 hl (by decide) rfl (fun ls hl => ?_)
                                  refine lv_aload_n hx hb dX12_tells_338 rfl (lv_at hl 5 rfl) ?_
                                  refine lv_dup hx hb dX12_tells_339 rfl ?_
                                  refine va_get (D := D) (ci := 12) (v := .int (u372 22)) (C := RX12) (T := TX12) (N := 48) hx hb hg inC12 hown hK hP 0 rfl rfl 22 (by decide) (hg _ wt5_182) (fun _ h9 => h9) rfl dX12_tells_340 ?_
                                  refine k_top (z := gv375) egv375.symm ?_
                                  refine lv_iconst (v := 1) hx hb dX12_tells_343 (by decide) ?_
                                  refine lv_iadd hx hb dX12_tells_344 ?_
                                  refine lv_topi (fun t412 et412 => ?_)
                                  have b413 : kb 1 t412 2802 := kb_eq et412 (kb_add b377 kc_1 (by decide) (by decide))
                                  have qt412 : t412.toInt = gv375.toInt + 1 := by rw [et412]; exact kt_addc b377 kc_1 (by decide) (by decide)
                                  have hg414 : t412.toInt = 400 * (t : Int) + ((jj + 1 : Nat) : Int) := by first | exact kn7_go qt412 hg376 | (rw [qt412, hg376]; omega)
                                  refine va_put (D := D) (ci := 12) (v := .int t412) (ty := .int) (C := RX12) (T := TX12) (N := 48) hx hb hg inC12 tyX12 tyX12_ok nmX12 hown hK hP hD hS 0 rfl rfl 22 (by decide) (hg _ wt5_182) (fun _ h9 => h9) rfl (by decide +kernel) rfl rfl (Nat.le_of_ble_eq_true rfl) dX12_tells_345 (fun H locs hP hD hS => ?_)
                                  have hP : va_P D vwCl (mW K o r (upd u372 22 t412) a_37 g) H := hP
                                  have hD : va_D A (mW K o r (upd u372 22 t412) a_37 g) := hD
                                  refine k_gen (P := fun z => va_P D vwCl (mW K o r z a_37 g) H ∧ va_D A (mW K o r z a_37 g) ∧ (mI z a_37) ∧ (mE (XR []) f a z a_37) ∧ (mZ [22, 23, 24, 25] [26] f a z a_37) ∧ (eS z a_37 t false)) (upd u372 22 t412) ⟨hP, hD, (mI_f hI (fI_st hI.1 22 (kb_any _) (by decide) (by decide))), (mE_f hE (by decide)), (mZ_f hZ rfl), (eS_f hk0 (by decide) (by decide))⟩ (fun f_415 ef_415 hq => ?_)
                                  obtain ⟨hP, hD, hI, hE, hZ, hk0⟩ := hq
                                  refine lv_goto (tgt := 198) hx hb dX12_tells_348 (by decide) ?_
                                  exact ihlp53 (jj + 1) (cc + 1) f_415 _ _ _ t410 (by first | exact kn7_ml hmlp53 | (have w1 := hmlp53; omega)) hI hE hZ hk0 b411 (by rw [(show f_415 22 = t412 from kn7_u1 ef_415 rfl)]; exact hg414) (hnx.elim (fun q => Or.inl ⟨q.1, q.2.2.symm⟩) (fun q => Or.inr ⟨q.1, by first | exact kn7_sl q.2 | (have w1 := q.2; omega)⟩)) (by rw [lastOf_s, ct_y (hhk.trans (by rw [← c379]; decide +kernel)) (by rw [hv3]; rfl) (mr_s hr368 c387)]; show (t410 : Int64).toInt = max 0 (min hi.toInt (v360.toInt)); have w0 := bhi.1; have k0 : (0 : Int64).toInt = 0 := (by decide +kernel); have k1 : (1 : Int64).toInt = 1 := (by decide +kernel); have k9 : t410.toInt = hi.toInt := (congrArg Int64.toInt et410).trans (kt_i2l _); have k9t398 : t398.toInt = hi.toInt := (congrArg Int64.toInt et398).trans (kt_i2l _); have k9t410 : t410.toInt = hi.toInt := (congrArg Int64.toInt et410).trans (kt_i2l _); omega) (by first | exact Nat.succ_le_of_lt hcs.1 | (have w1 := hcs.1; omega)) hP hD hS (lv_sub hl [0, 5, 6, 7, 8, 9, 10] rfl)
                              · have h416 := klc_nge (et394 ▸ c395)
                                have b417 : kbl (-9223372036854775808) v360 (-1) := klr_lt1 h416 (kbl_any v360) kcl_0 (by decide)
                                refine lv_lconst (v := 0) hx hb dX12_tells_315 (by decide) ?_
                                refine lv_goto (tgt := 336) hx hb dX12_tells_316 (by decide) ?_
                                refine lv_lstore (lv' := [(6, .long 0), (12, .int 1), (11, .int bq366), (9, .long v360), (8, .int 2), (0, .ref o), (1, .int hd), (2, .int bd), (3, .int pt), (4, .int hi), (5, .int wo)]) hx hb dX12_tells_336 hl (by decide) rfl (fun ls hl => ?_)
                                refine lv_aload_n hx hb dX12_tells_338 rfl (lv_at hl 5 rfl) ?_
                                refine lv_dup hx hb dX12_tells_339 rfl ?_
                                refine va_get (D := D) (ci := 12) (v := .int (u372 22)) (C := RX12) (T := TX12) (N := 48) hx hb hg inC12 hown hK hP 0 rfl rfl 22 (by decide) (hg _ wt5_182) (fun _ h9 => h9) rfl dX12_tells_340 ?_
                                refine k_top (z := gv375) egv375.symm ?_
                                refine lv_iconst (v := 1) hx hb dX12_tells_343 (by decide) ?_
                                refine lv_iadd hx hb dX12_tells_344 ?_
                                refine lv_topi (fun t418 et418 => ?_)
                                have b419 : kb 1 t418 2802 := kb_eq et418 (kb_add b377 kc_1 (by decide) (by decide))
                                have qt418 : t418.toInt = gv375.toInt + 1 := by rw [et418]; exact kt_addc b377 kc_1 (by decide) (by decide)
                                have hg420 : t418.toInt = 400 * (t : Int) + ((jj + 1 : Nat) : Int) := by first | exact kn7_go qt418 hg376 | (rw [qt418, hg376]; omega)
                                refine va_put (D := D) (ci := 12) (v := .int t418) (ty := .int) (C := RX12) (T := TX12) (N := 48) hx hb hg inC12 tyX12 tyX12_ok nmX12 hown hK hP hD hS 0 rfl rfl 22 (by decide) (hg _ wt5_182) (fun _ h9 => h9) rfl (by decide +kernel) rfl rfl (Nat.le_of_ble_eq_true rfl) dX12_tells_345 (fun H locs hP hD hS => ?_)
                                have hP : va_P D vwCl (mW K o r (upd u372 22 t418) a_37 g) H := hP
                                have hD : va_D A (mW K o r (upd u372 22 t418) a_37 g) := hD
                                refine k_gen (P := fun z => va_P D vwCl (mW K o r z a_37 g) H ∧ va_D A (mW K o r z a_37 g) ∧ (mI z a_37) ∧ (mE (XR []) f a z a_37) ∧ (mZ [22, 23, 24, 25] [26] f a z a_37) ∧ (eS z a_37 t false)) (upd u372 22 t418) ⟨hP, hD, (mI_f hI (fI_st hI.1 22 (kb_any _) (by decide) (by decide))), (mE_f hE (by decide)), (mZ_f hZ rfl), (eS_f hk0 (by decide) (by decide))⟩ (fun f_421 ef_421 hq => ?_)
                                obtain ⟨hP, hD, hI, hE, hZ, hk0⟩ := hq
                                refine lv_goto (tgt := 198) hx hb dX12_tells_348 (by decide) ?_
                                exact ihlp53 (jj + 1) (cc + 1) f_421 _ _ _ 0 (by first | exact kn7_ml hmlp53 | (have w1 := hmlp53; omega)) hI hE hZ hk0 (kbl_w kcl_0 (by decide) (by decide)) (by rw [(show f_421 22 = t418 from kn7_u1 ef_421 rfl)]; exact hg420) (hnx.elim (fun q => Or.inl ⟨q.1, q.2.2.symm⟩) (fun q => Or.inr ⟨q.1, by first | exact kn7_sl q.2 | (have w1 := q.2; omega)⟩)) (by rw [lastOf_s, ct_y (hhk.trans (by rw [← c379]; decide +kernel)) (by rw [hv3]; rfl) (mr_s hr368 c387)]; show (0 : Int64).toInt = max 0 (min hi.toInt (v360.toInt)); have w0 := bhi.1; have k0 : (0 : Int64).toInt = 0 := (by decide +kernel); have k1 : (1 : Int64).toInt = 1 := (by decide +kernel); omega) (by first | exact Nat.succ_le_of_lt hcs.1 | (have w1 := hcs.1; omega)) hP hD hS (lv_sub hl [0, 5, 6, 7, 8, 9, 10] rfl)
                    · exact kb_nsame c378 kc_0 kc_0
                  · exact kb_dj c358 kc_2 kc_4 (by decide)
            · have b422 : kb 0 gv56 2799 := kb_go hk0 (mC_lt hk0 (ne_0 (tq_y hp2 (x := 3) (y := 2006) (by decide +kernel) (by decide +kernel) h1) (by decide +kernel))) hg57
              have hhk : (DD (a 2 106).toInt.toNat).2.2.1 cc = kHd 2 := hhd.trans (h1.trans (by decide +kernel))
              rcases hif with ⟨h2, h3⟩ | ⟨h2, hj, hv3⟩
              · refine lv_aload_n hx hb dX12_tells_198 rfl (lv_at hl 1 rfl) ?_
                refine va_get (D := D) (ci := 12) (v := .int (F52 22)) (C := RX12) (T := TX12) (N := 48) hx hb hg inC12 hown hK hP 0 rfl rfl 22 (by decide) (hg _ wt5_182) (fun _ h9 => h9) rfl dX12_tells_199 ?_
                refine k_top (z := gv56) egv56.symm ?_
                refine lv_aload_n hx hb dX12_tells_202 rfl (lv_at hl 1 rfl) ?_
                refine va_get (D := D) (ci := 12) (v := .int (F52 23)) (C := RX12) (T := TX12) (N := 48) hx hb hg inC12 hown hK hP 0 rfl rfl 23 (by decide) (hg _ wt5_183) (fun _ h9 => h9) rfl dX12_tells_203 ?_
                refine lv_topi (fun t423 et423 => ?_)
                refine lv_icmp_ge (tgt := 351) hx hb dX12_tells_206 (by decide) (fun c424 => ?_) (fun c424 => ?_)
                · exact absurd (kc_le c424) (by have w1 := congrArg Int32.toInt et423.symm; have w2 := hk0.2.1; have w3 := hg57; have w4 := mC_lS hk0 (ne_0 (tq_y hp2 (x := 3) (y := 2006) (by decide +kernel) (by decide +kernel) h1) (by decide +kernel)); omega)
                · have h425 := (kc_nle c424)
                  have b426 : kb 1 t423 2147483647 := kr_lt2 h425 b422 (kb_any t423) (by decide)
                  refine lv_aload_n hx hb dX12_tells_209 rfl (lv_at hl 1 rfl) ?_
                  refine lv_aload_n hx hb dX12_tells_210 rfl (lv_at hl 1 rfl) ?_
                  refine va_get (D := D) (ci := 12) (v := .int (F52 22)) (C := RX12) (T := TX12) (N := 48) hx hb hg inC12 hown hK hP 0 rfl rfl 22 (by decide) (hg _ wt5_182) (fun _ h9 => h9) rfl dX12_tells_211 ?_
                  refine k_top (z := gv56) egv56.symm ?_
                  refine kI.callV (As := [.int gv56]) (rest := []) ⟨hx, hb, hml, hown, hg⟩ (m_codeAt l o r F52 a_37 g hI gv56  t (i) false hk0 hg57) (cwV 1 hg (kgV wt7_47 wt7_49 wp5_8 wt1_14 wt7_50) rfl rfl rfl (by decide +kernel) ⟨by decide, by decide⟩) hK hP hD hS hA mIs [] rfl (wr := []) rfl rfl rfl (fun i h => by cases h) 0 12 rfl rfl rfl hl.1 rfl (Nat.le_of_ble_eq_true rfl) dX12_tells_214 ⟨Nat.le_refl _, Nat.le_refl _⟩ (fun v428 u429 H locs hw427 hP hD hS => ?_)
                  have hP : va_P D vwCl (mW K o r F52 a_37 g) H := hP
                  have hD : va_D A (mW K o r F52 a_37 g) := hD
                  refine k_top (z := 3) (hw427.2.trans (tq_y hp2 (x := 3) (y := 2006) (by decide +kernel) (by decide +kernel) h1)) ?_
                  refine lv_istore (lv' := [(8, .int 3), (6, .long y51), (0, .ref o), (1, .int hd), (2, .int bd), (3, .int pt), (4, .int hi), (5, .int wo)]) hx hb dX12_tells_217 hl (by decide) rfl (fun ls hl => ?_)
                  refine lv_aload_n hx hb dX12_tells_219 rfl (lv_at hl 2 rfl) ?_
                  refine lv_iconst (v := 0) hx hb dX12_tells_220 (by decide) ?_
                  refine va_put (D := D) (ci := 12) (v := .int 0) (ty := .boolean) (C := RX12) (T := TX12) (N := 48) hx hb hg inC12 tyX12 tyX12_ok nmX12 hown hK hP hD hS 0 rfl rfl 24 (by decide) (hg _ wt5_184) (fun _ h9 => h9) rfl (by decide +kernel) rfl rfl (Nat.le_of_ble_eq_true rfl) dX12_tells_221 (fun H locs hP hD hS => ?_)
                  have hP : va_P D vwCl (mW K o r (upd F52 24 0) a_37 g) H := hP
                  have hD : va_D A (mW K o r (upd F52 24 0) a_37 g) := hD
                  refine k_gen (P := fun z => va_P D vwCl (mW K o r z a_37 g) H ∧ va_D A (mW K o r z a_37 g) ∧ (mI z a_37) ∧ (mE (XR []) f a z a_37) ∧ (mZ [22, 23, 24, 25] [26] f a z a_37) ∧ (eS z a_37 t false)) (upd F52 24 0) ⟨hP, hD, (mI_f hI (fI_st hI.1 24 kc_0 (by decide) (by decide))), (mE_f hE (by decide)), (mZ_f hZ rfl), (eS_f hk0 (by decide) (by decide))⟩ (fun f_430 ef_430 hq => ?_)
                  obtain ⟨hP, hD, hI, hE, hZ, hk0⟩ := hq
                  refine lv_aload_n hx hb dX12_tells_224 rfl (lv_at hl 2 rfl) ?_
                  refine lv_dup hx hb dX12_tells_225 rfl ?_
                  refine va_get (D := D) (ci := 12) (v := .int (f_430 22)) (C := RX12) (T := TX12) (N := 48) hx hb hg inC12 hown hK hP 0 rfl rfl 22 (by decide) (hg _ wt5_182) (fun _ h9 => h9) rfl dX12_tells_226 ?_
                  refine k_top (z := gv56) ((show f_430 22 = F52 22 from kn7_u1 ef_430 rfl).trans egv56.symm) ?_
                  refine lv_iconst (v := 1) hx hb dX12_tells_229 (by decide) ?_
                  refine lv_iadd hx hb dX12_tells_230 ?_
                  refine lv_topi (fun t431 et431 => ?_)
                  have b432 : kb 1 t431 2800 := kb_eq et431 (kb_add b422 kc_1 (by decide) (by decide))
                  have qt431 : t431.toInt = gv56.toInt + 1 := by rw [et431]; exact kt_addc b422 kc_1 (by decide) (by decide)
                  have hg433 : t431.toInt = 400 * (t : Int) + ((i + 1 : Nat) : Int) := by first | exact kn7_go qt431 hg57 | (rw [qt431, hg57]; omega)
                  refine va_put (D := D) (ci := 12) (v := .int t431) (ty := .int) (C := RX12) (T := TX12) (N := 48) hx hb hg inC12 tyX12 tyX12_ok nmX12 hown hK hP hD hS 0 rfl rfl 22 (by decide) (hg _ wt5_182) (fun _ h9 => h9) rfl (by decide +kernel) rfl rfl (Nat.le_of_ble_eq_true rfl) dX12_tells_231 (fun H locs hP hD hS => ?_)
                  have hP : va_P D vwCl (mW K o r (upd f_430 22 t431) a_37 g) H := hP
                  have hD : va_D A (mW K o r (upd f_430 22 t431) a_37 g) := hD
                  refine k_gen (P := fun z => va_P D vwCl (mW K o r z a_37 g) H ∧ va_D A (mW K o r z a_37 g) ∧ (mI z a_37) ∧ (mE (XR []) f a z a_37) ∧ (mZ [22, 23, 24, 25] [26] f a z a_37) ∧ (eS z a_37 t false)) (upd f_430 22 t431) ⟨hP, hD, (mI_f hI (fI_st hI.1 22 (kb_any _) (by decide) (by decide))), (mE_f hE (by decide)), (mZ_f hZ rfl), (eS_f hk0 (by decide) (by decide))⟩ (fun f_434 ef_434 hq => ?_)
                  obtain ⟨hP, hD, hI, hE, hZ, hk0⟩ := hq
                  refine lv_iload hx hb dX12_tells_234 (lv_at hl 0 rfl) ?_
                  refine lv_iconst (v := 4) hx hb dX12_tells_236 (by decide) ?_
                  refine lv_icmp_ne (tgt := 244) hx hb dX12_tells_237 (by decide) (fun c435 => ?_) (fun c435 => ?_)
                  · refine lv_aload_n hx hb dX12_tells_244 rfl (lv_at hl 2 rfl) ?_
                    refine lv_iconst (v := 1) hx hb dX12_tells_245 (by decide) ?_
                    refine kL.callV (As := [.int 1]) (rest := []) ⟨hx, hb, hml, hown, hg⟩ ((n_allSum 8) l o r f_434 a_37 g hI 1 (kb_w kc_1 (by decide) (by decide)) t (i + 1) (mm) false T (lwW (a 2) bd pt) ((DD (a 2 106).toInt.toNat).2.2.2.2.1 cc) hk0 (by rw [(show f_434 22 = t431 from kn7_u1 ef_434 rfl)]; exact hg433) hp2 (hp3 f_434) hs) (cwV 1 hg (kgV wt7_51 wt7_53 wp5_9 wt1_14 wt7_54) rfl rfl rfl (by decide +kernel) ⟨by decide, by decide⟩) hK hP hD hS hA mIs [] rfl (wr := []) rfl rfl rfl (fun i h => by cases h) 0 12 rfl rfl rfl hl.1 rfl (Nat.le_of_ble_eq_true rfl) dX12_tells_246 ⟨Nat.le_refl _, Nat.le_refl _⟩ (fun v437 u438 H locs hw436 hP hD hS => ?_)
                    have hP : va_P D vwCl (mW K o r u438 a_37 g) H := hP
                    have hD : va_D A (mW K o r u438 a_37 g) := hD
                    have hI : mI u438 a_37 := hw436.2.1
                    have eE439 : fE [22, 24] f_434 u438 := hw436.2.2.1
                    have hE : mE (XR []) f a u438 a_37 := mE_fE hE eE439 (by decide)
                    have hZ : mZ [22, 23, 24, 25] [26] f a u438 a_37 := mZ_fE hZ (fE_w (by decide) eE439)
                    have hk0 : eS u438 a_37 t false := eS_fE eE439 hk0 (by decide) (by decide)
                    obtain ⟨gv440, egv440⟩ : ∃ z : Int32, z = u438 22 := ⟨_, rfl⟩
                    have hg441 : gv440.toInt = 400 * (t : Int) + ((mm : Nat) : Int) := by rw [egv440]; exact hw436.2.2.2.1
                    have b442 : kb 0 gv440 2799 := kb_go hk0 (mC_lt hk0 (ne_0 (tq_y hp2 (x := 5) (y := 2003) (by decide +kernel) (by decide +kernel) h2) (by decide +kernel))) hg441
                    obtain ⟨bq443, ebq443⟩ : ∃ z : Int32, z = u438 24 := ⟨_, rfl⟩
                    have b444 : kb 0 bq443 1 := kb_eq ebq443 (fI_at hI.1 24 (by decide) (by decide))
                    have hr445 : mRs 1 0 (((DD (a 2 106).toInt.toNat).2.2.2.2.1 cc) (lwW (a 2) bd pt)) bq443 v437.toInt := by have w1 := hw436.2.2.2.2; rw [((show f_434 24 = f_430 24 from kn7_u1 ef_434 rfl).trans (show f_430 24 = 0 from kn7_u1 ef_430 rfl)), ← ebq443] at w1; exact w1
                    refine lv_lstore (lv' := [(9, .long v437), (8, .int 3), (6, .long y51), (0, .ref o), (1, .int hd), (2, .int bd), (3, .int pt), (4, .int hi), (5, .int wo)]) hx hb dX12_tells_249 hl (by decide) rfl (fun ls hl => ?_)
                    refine lv_aload_n hx hb dX12_tells_251 rfl (lv_at hl 3 rfl) ?_
                    refine va_get (D := D) (ci := 12) (v := .int (u438 24)) (C := RX12) (T := TX12) (N := 48) hx hb hg inC12 hown hK hP 0 rfl rfl 24 (by decide) (hg _ wt5_184) (fun _ h9 => h9) rfl dX12_tells_252 ?_
                    refine k_top (z := bq443) ebq443.symm ?_
                    refine lv_istore (lv' := [(11, .int bq443), (9, .long v437), (8, .int 3), (6, .long y51), (0, .ref o), (1, .int hd), (2, .int bd), (3, .int pt), (4, .int hi), (5, .int wo)]) hx hb dX12_tells_255 hl (by decide) rfl (fun ls hl => ?_)
                    refine lv_aload_n hx hb dX12_tells_257 rfl (lv_at hl 4 rfl) ?_
                    refine lv_iconst (v := 0) hx hb dX12_tells_258 (by decide) ?_
                    refine va_put (D := D) (ci := 12) (v := .int 0) (ty := .boolean) (C := RX12) (T := TX12) (N := 48) hx hb hg inC12 tyX12 tyX12_ok nmX12 hown hK hP hD hS 0 rfl rfl 24 (by decide) (hg _ wt5_184) (fun _ h9 => h9) rfl (by decide +kernel) rfl rfl (Nat.le_of_ble_eq_true rfl) dX12_tells_259 (fun H locs hP hD hS => ?_)
                    have hP : va_P D vwCl (mW K o r (upd u438 24 0) a_37 g) H := hP
                    have hD : va_D A (mW K o r (upd u438 24 0) a_37 g) := hD
                    refine k_gen (P := fun z => va_P D vwCl (mW K o r z a_37 g) H ∧ va_D A (mW K o r z a_37 g) ∧ (mI z a_37) ∧ (mE (XR []) f a z a_37) ∧ (mZ [22, 23, 24, 25] [26] f a z a_37) ∧ (eS z a_37 t false)) (upd u438 24 0) ⟨hP, hD, (mI_f hI (fI_st hI.1 24 kc_0 (by decide) (by decide))), (mE_f hE (by decide)), (mZ_f hZ rfl), (eS_f hk0 (by decide) (by decide))⟩ (fun f_446 ef_446 hq => ?_)
                    obtain ⟨hP, hD, hI, hE, hZ, hk0⟩ := hq
                    refine lv_aload_n hx hb dX12_tells_262 rfl (lv_at hl 4 rfl) ?_
                    refine lv_iconst (v := 5) hx hb dX12_tells_263 (by decide) ?_
                    refine kI.callV (As := [.int 5]) (rest := []) ⟨hx, hb, hml, hown, hg⟩ (m_passes0 l o r f_446 a_37 g hI 5 (kb_w kc_5 (by decide) (by decide)) t (mm) false hk0 (by rw [((show f_446 22 = u438 22 from kn7_u1 ef_446 rfl).trans egv440.symm)]; exact hg441)) (cwV 1 hg (kgV wt7_63 wt7_65 wp5_12 wt1_14 wt7_66) rfl rfl rfl (by decide +kernel) ⟨by decide, by decide⟩) hK hP hD hS hA mIs [] rfl (wr := []) rfl rfl rfl (fun i h => by cases h) 0 12 rfl rfl rfl hl.1 rfl (Nat.le_of_ble_eq_true rfl) dX12_tells_264 ⟨Nat.le_refl _, Nat.le_refl _⟩ (fun v448 u449 H locs hw447 hP hD hS => ?_)
                    have hP : va_P D vwCl (mW K o r u449 a_37 g) H := hP
                    have hD : va_D A (mW K o r u449 a_37 g) := hD
                    have hI : mI u449 a_37 := hw447.2.1
                    have eE450 : fE [22] f_446 u449 := hw447.2.2.1
                    have hE : mE (XR []) f a u449 a_37 := mE_fE hE eE450 (by decide)
                    have hZ : mZ [22, 23, 24, 25] [26] f a u449 a_37 := mZ_fE hZ (fE_w (by decide) eE450)
                    have hk0 : eS u449 a_37 t false := eS_fE eE450 hk0 (by decide) (by decide)
                    have hz451 := pass_y hw447.2.2.2 (tq_y hp2 (x := 5) (y := 2003) (by decide +kernel) (by decide +kernel) h2)
                    refine k_top (z := 1) hz451.1 ?_
                    obtain ⟨gv452, egv452⟩ : ∃ z : Int32, z = u449 22 := ⟨_, rfl⟩
                    have hg453 : gv452.toInt = 400 * (t : Int) + ((mm + 1 : Nat) : Int) := by rw [egv452]; exact hz451.2
                    refine lv_if_eq (tgt := 278) hx hb dX12_tells_267 (by decide) (fun c454 => ?_) (fun c454 => ?_)
                    · exact kb_dj c454 kc_1 kc_0 (by decide)
                    · refine lv_aload_n hx hb dX12_tells_270 rfl (lv_at hl 4 rfl) ?_
                      refine lv_iconst (v := 1) hx hb dX12_tells_271 (by decide) ?_
                      refine kI.callV (As := [.int 1]) (rest := []) ⟨hx, hb, hml, hown, hg⟩ ((n_allTest 8) l o r u449 a_37 g hI 1 (kb_w kc_1 (by decide) (by decide)) t (mm + 1) (jj) false T (lwW (a 2) bd pt) ((DD (a 2 106).toInt.toNat).2.2.2.2.2.2 cc) hk0 (by rw [egv452.symm]; exact hg453) hp2 (hp3 u449) h3) (cwV 1 hg (kgV wt7_80 wt7_82 wp5_15 wt1_14 wt7_83) rfl rfl rfl (by decide +kernel) ⟨by decide, by decide⟩) hK hP hD hS hA mIs [] rfl (wr := []) rfl rfl rfl (fun i h => by cases h) 0 12 rfl rfl rfl hl.1 rfl (Nat.le_of_ble_eq_true rfl) dX12_tells_272 ⟨Nat.le_refl _, Nat.le_refl _⟩ (fun v456 u457 H locs hw455 hP hD hS => ?_)
                      have hP : va_P D vwCl (mW K o r u457 a_37 g) H := hP
                      have hD : va_D A (mW K o r u457 a_37 g) := hD
                      have hI : mI u457 a_37 := hw455.2.1
                      have eE458 : fE [22, 24] u449 u457 := hw455.2.2.1
                      have hE : mE (XR []) f a u457 a_37 := mE_fE hE eE458 (by decide)
                      have hZ : mZ [22, 23, 24, 25] [26] f a u457 a_37 := mZ_fE hZ (fE_w (by decide) eE458)
                      have hk0 : eS u457 a_37 t false := eS_fE eE458 hk0 (by decide) (by decide)
                      obtain ⟨gv459, egv459⟩ : ∃ z : Int32, z = u457 22 := ⟨_, rfl⟩
                      have hg460 : gv459.toInt = 400 * (t : Int) + ((jj : Nat) : Int) := by rw [egv459]; exact hw455.2.2.2.1
                      have b461 : kb 0 gv459 2801 := kb_go1 hk0 (by have w1 := hk0.2.2.2.2; omega) hg460
                      obtain ⟨bq462, ebq462⟩ : ∃ z : Int32, z = u457 24 := ⟨_, rfl⟩
                      have b463 : kb 0 bq462 1 := kb_eq ebq462 (fI_at hI.1 24 (by decide) (by decide))
                      have hr464 : mTv 1 0 (((DD (a 2 106).toInt.toNat).2.2.2.2.2.2 cc) (lwW (a 2) bd pt)) bq462 v456 := by have w1 := hw455.2.2.2.2; rw [((eE450 24 (by decide)).trans (show f_446 24 = 0 from kn7_u1 ef_446 rfl)), ← ebq462] at w1; exact w1
                      refine lv_if_eq (tgt := 282) hx hb dX12_tells_275 (by decide) (fun c465 => ?_) (fun c465 => ?_)
                      · have b466 : kb 0 v456 0 := kb_eq c465 kc_0
                        refine lv_iconst (v := 0) hx hb dX12_tells_282 (by decide) ?_
                        refine lv_istore (lv' := [(12, .int 0), (11, .int bq443), (9, .long v437), (8, .int 3), (6, .long y51), (0, .ref o), (1, .int hd), (2, .int bd), (3, .int pt), (4, .int hi), (5, .int wo)]) hx hb dX12_tells_283 hl (by decide) rfl (fun ls hl => ?_)
                        refine lv_iload hx hb dX12_tells_285 (lv_at hl 3 rfl) ?_
                        refine lv_iload_n hx hb dX12_tells_287 rfl (lv_at hl 6 rfl) ?_
                        refine lv_icmp_ne (tgt := 338) hx hb dX12_tells_288 (by decide) (fun c467 => ?_) (fun c467 => ?_)
                        · refine lv_aload_n hx hb dX12_tells_338 rfl (lv_at hl 5 rfl) ?_
                          refine lv_dup hx hb dX12_tells_339 rfl ?_
                          refine va_get (D := D) (ci := 12) (v := .int (u457 22)) (C := RX12) (T := TX12) (N := 48) hx hb hg inC12 hown hK hP 0 rfl rfl 22 (by decide) (hg _ wt5_182) (fun _ h9 => h9) rfl dX12_tells_340 ?_
                          refine k_top (z := gv459) egv459.symm ?_
                          refine lv_iconst (v := 1) hx hb dX12_tells_343 (by decide) ?_
                          refine lv_iadd hx hb dX12_tells_344 ?_
                          refine lv_topi (fun t468 et468 => ?_)
                          have b469 : kb 1 t468 2802 := kb_eq et468 (kb_add b461 kc_1 (by decide) (by decide))
                          have qt468 : t468.toInt = gv459.toInt + 1 := by rw [et468]; exact kt_addc b461 kc_1 (by decide) (by decide)
                          have hg470 : t468.toInt = 400 * (t : Int) + ((jj + 1 : Nat) : Int) := by first | exact kn7_go qt468 hg460 | (rw [qt468, hg460]; omega)
                          refine va_put (D := D) (ci := 12) (v := .int t468) (ty := .int) (C := RX12) (T := TX12) (N := 48) hx hb hg inC12 tyX12 tyX12_ok nmX12 hown hK hP hD hS 0 rfl rfl 22 (by decide) (hg _ wt5_182) (fun _ h9 => h9) rfl (by decide +kernel) rfl rfl (Nat.le_of_ble_eq_true rfl) dX12_tells_345 (fun H locs hP hD hS => ?_)
                          have hP : va_P D vwCl (mW K o r (upd u457 22 t468) a_37 g) H := hP
                          have hD : va_D A (mW K o r (upd u457 22 t468) a_37 g) := hD
                          refine k_gen (P := fun z => va_P D vwCl (mW K o r z a_37 g) H ∧ va_D A (mW K o r z a_37 g) ∧ (mI z a_37) ∧ (mE (XR []) f a z a_37) ∧ (mZ [22, 23, 24, 25] [26] f a z a_37) ∧ (eS z a_37 t false)) (upd u457 22 t468) ⟨hP, hD, (mI_f hI (fI_st hI.1 22 (kb_any _) (by decide) (by decide))), (mE_f hE (by decide)), (mZ_f hZ rfl), (eS_f hk0 (by decide) (by decide))⟩ (fun f_471 ef_471 hq => ?_)
                          obtain ⟨hP, hD, hI, hE, hZ, hk0⟩ := hq
                          refine lv_goto (tgt := 198) hx hb dX12_tells_348 (by decide) ?_
                          exact ihlp53 (jj + 1) (cc + 1) f_471 _ _ _ y51 (by first | exact kn7_ml hmlp53 | (have w1 := hmlp53; omega)) hI hE hZ hk0 b55 (by rw [(show f_471 22 = t468 from kn7_u1 ef_471 rfl)]; exact hg470) (hnx.elim (fun q => Or.inl ⟨q.1, q.2.2.symm⟩) (fun q => Or.inr ⟨q.1, by first | exact kn7_sl q.2 | (have w1 := q.2; omega)⟩)) (by rw [lastOf_s, ct_n (fun q => c467 (Int32.toInt_inj.mp (by first | exact (kHd_j (hhk.symm.trans q) bhd).trans (by decide +kernel) | (have w1 := kHd_j (hhk.symm.trans q) bhd; have w2 : (3 : Int32).toInt = 3 := (by decide +kernel); omega))))]; exact htd) (by first | exact Nat.succ_le_of_lt hcs.1 | (have w1 := hcs.1; omega)) hP hD hS (lv_sub hl [4, 5, 6, 7, 8, 9, 10] rfl)
                        · have b472 : kb 3 hd 3 := kb_eq c467.symm kc_3
                          refine lv_iload hx hb dX12_tells_291 (lv_at hl 0 rfl) ?_
                          refine lv_if_eq (tgt := 338) hx hb dX12_tells_293 (by decide) (fun c473 => ?_) (fun c473 => ?_)
                          · refine lv_aload_n hx hb dX12_tells_338 rfl (lv_at hl 5 rfl) ?_
                            refine lv_dup hx hb dX12_tells_339 rfl ?_
                            refine va_get (D := D) (ci := 12) (v := .int (u457 22)) (C := RX12) (T := TX12) (N := 48) hx hb hg inC12 hown hK hP 0 rfl rfl 22 (by decide) (hg _ wt5_182) (fun _ h9 => h9) rfl dX12_tells_340 ?_
                            refine k_top (z := gv459) egv459.symm ?_
                            refine lv_iconst (v := 1) hx hb dX12_tells_343 (by decide) ?_
                            refine lv_iadd hx hb dX12_tells_344 ?_
                            refine lv_topi (fun t474 et474 => ?_)
                            have b475 : kb 1 t474 2802 := kb_eq et474 (kb_add b461 kc_1 (by decide) (by decide))
                            have qt474 : t474.toInt = gv459.toInt + 1 := by rw [et474]; exact kt_addc b461 kc_1 (by decide) (by decide)
                            have hg476 : t474.toInt = 400 * (t : Int) + ((jj + 1 : Nat) : Int) := by first | exact kn7_go qt474 hg460 | (rw [qt474, hg460]; omega)
                            refine va_put (D := D) (ci := 12) (v := .int t474) (ty := .int) (C := RX12) (T := TX12) (N := 48) hx hb hg inC12 tyX12 tyX12_ok nmX12 hown hK hP hD hS 0 rfl rfl 22 (by decide) (hg _ wt5_182) (fun _ h9 => h9) rfl (by decide +kernel) rfl rfl (Nat.le_of_ble_eq_true rfl) dX12_tells_345 (fun H locs hP hD hS => ?_)
                            have hP : va_P D vwCl (mW K o r (upd u457 22 t474) a_37 g) H := hP
                            have hD : va_D A (mW K o r (upd u457 22 t474) a_37 g) := hD
                            refine k_gen (P := fun z => va_P D vwCl (mW K o r z a_37 g) H ∧ va_D A (mW K o r z a_37 g) ∧ (mI z a_37) ∧ (mE (XR []) f a z a_37) ∧ (mZ [22, 23, 24, 25] [26] f a z a_37) ∧ (eS z a_37 t false)) (upd u457 22 t474) ⟨hP, hD, (mI_f hI (fI_st hI.1 22 (kb_any _) (by decide) (by decide))), (mE_f hE (by decide)), (mZ_f hZ rfl), (eS_f hk0 (by decide) (by decide))⟩ (fun f_477 ef_477 hq => ?_)
                            obtain ⟨hP, hD, hI, hE, hZ, hk0⟩ := hq
                            refine lv_goto (tgt := 198) hx hb dX12_tells_348 (by decide) ?_
                            exact ihlp53 (jj + 1) (cc + 1) f_477 _ _ _ y51 (by first | exact kn7_ml hmlp53 | (have w1 := hmlp53; omega)) hI hE hZ hk0 b55 (by rw [(show f_477 22 = t474 from kn7_u1 ef_477 rfl)]; exact hg476) (hnx.elim (fun q => Or.inl ⟨q.1, q.2.2.symm⟩) (fun q => Or.inr ⟨q.1, by first | exact kn7_sl q.2 | (have w1 := q.2; omega)⟩)) (by rw [lastOf_s, ct_t (mt_0 hr464 c465)]; exact htd) (by first | exact Nat.succ_le_of_lt hcs.1 | (have w1 := hcs.1; omega)) hP hD hS (lv_sub hl [4, 5, 6, 7, 8, 9, 10] rfl)
                          · exact kb_nsame c473 kc_0 kc_0
                      · have b478 : kb 1 v456 1 := kr_nel c465 hw455.1 kc_0 (by decide)
                        refine lv_iconst (v := 1) hx hb dX12_tells_278 (by decide) ?_
                        refine lv_goto (tgt := 283) hx hb dX12_tells_279 (by decide) ?_
                        refine lv_istore (lv' := [(12, .int 1), (11, .int bq443), (9, .long v437), (8, .int 3), (6, .long y51), (0, .ref o), (1, .int hd), (2, .int bd), (3, .int pt), (4, .int hi), (5, .int wo)]) hx hb dX12_tells_283 hl (by decide) rfl (fun ls hl => ?_)
                        refine lv_iload hx hb dX12_tells_285 (lv_at hl 3 rfl) ?_
                        refine lv_iload_n hx hb dX12_tells_287 rfl (lv_at hl 6 rfl) ?_
                        refine lv_icmp_ne (tgt := 338) hx hb dX12_tells_288 (by decide) (fun c479 => ?_) (fun c479 => ?_)
                        · refine lv_aload_n hx hb dX12_tells_338 rfl (lv_at hl 5 rfl) ?_
                          refine lv_dup hx hb dX12_tells_339 rfl ?_
                          refine va_get (D := D) (ci := 12) (v := .int (u457 22)) (C := RX12) (T := TX12) (N := 48) hx hb hg inC12 hown hK hP 0 rfl rfl 22 (by decide) (hg _ wt5_182) (fun _ h9 => h9) rfl dX12_tells_340 ?_
                          refine k_top (z := gv459) egv459.symm ?_
                          refine lv_iconst (v := 1) hx hb dX12_tells_343 (by decide) ?_
                          refine lv_iadd hx hb dX12_tells_344 ?_
                          refine lv_topi (fun t480 et480 => ?_)
                          have b481 : kb 1 t480 2802 := kb_eq et480 (kb_add b461 kc_1 (by decide) (by decide))
                          have qt480 : t480.toInt = gv459.toInt + 1 := by rw [et480]; exact kt_addc b461 kc_1 (by decide) (by decide)
                          have hg482 : t480.toInt = 400 * (t : Int) + ((jj + 1 : Nat) : Int) := by first | exact kn7_go qt480 hg460 | (rw [qt480, hg460]; omega)
                          refine va_put (D := D) (ci := 12) (v := .int t480) (ty := .int) (C := RX12) (T := TX12) (N := 48) hx hb hg inC12 tyX12 tyX12_ok nmX12 hown hK hP hD hS 0 rfl rfl 22 (by decide) (hg _ wt5_182) (fun _ h9 => h9) rfl (by decide +kernel) rfl rfl (Nat.le_of_ble_eq_true rfl) dX12_tells_345 (fun H locs hP hD hS => ?_)
                          have hP : va_P D vwCl (mW K o r (upd u457 22 t480) a_37 g) H := hP
                          have hD : va_D A (mW K o r (upd u457 22 t480) a_37 g) := hD
                          refine k_gen (P := fun z => va_P D vwCl (mW K o r z a_37 g) H ∧ va_D A (mW K o r z a_37 g) ∧ (mI z a_37) ∧ (mE (XR []) f a z a_37) ∧ (mZ [22, 23, 24, 25] [26] f a z a_37) ∧ (eS z a_37 t false)) (upd u457 22 t480) ⟨hP, hD, (mI_f hI (fI_st hI.1 22 (kb_any _) (by decide) (by decide))), (mE_f hE (by decide)), (mZ_f hZ rfl), (eS_f hk0 (by decide) (by decide))⟩ (fun f_483 ef_483 hq => ?_)
                          obtain ⟨hP, hD, hI, hE, hZ, hk0⟩ := hq
                          refine lv_goto (tgt := 198) hx hb dX12_tells_348 (by decide) ?_
                          exact ihlp53 (jj + 1) (cc + 1) f_483 _ _ _ y51 (by first | exact kn7_ml hmlp53 | (have w1 := hmlp53; omega)) hI hE hZ hk0 b55 (by rw [(show f_483 22 = t480 from kn7_u1 ef_483 rfl)]; exact hg482) (hnx.elim (fun q => Or.inl ⟨q.1, q.2.2.symm⟩) (fun q => Or.inr ⟨q.1, by first | exact kn7_sl q.2 | (have w1 := q.2; omega)⟩)) (by rw [lastOf_s, ct_n (fun q => c479 (Int32.toInt_inj.mp (by first | exact (kHd_j (hhk.symm.trans q) bhd).trans (by decide +kernel) | (have w1 := kHd_j (hhk.symm.trans q) bhd; have w2 : (3 : Int32).toInt = 3 := (by decide +kernel); omega))))]; exact htd) (by first | exact Nat.succ_le_of_lt hcs.1 | (have w1 := hcs.1; omega)) hP hD hS (lv_sub hl [4, 5, 6, 7, 8, 9, 10] rfl)
                        · have b484 : kb 3 hd 3 := kb_eq c479.symm kc_3
                          refine lv_iload hx hb dX12_tells_291 (lv_at hl 0 rfl) ?_
                          refine lv_if_eq (tgt := 338) hx hb dX12_tells_293 (by decide) (fun c485 => ?_) (fun c485 => ?_)
                          · exact kb_dj c485 kc_1 kc_0 (by decide)
                          · refine lv_aload_n hx hb dX12_tells_296 rfl (lv_at hl 5 rfl) ?_
                            refine va_get (D := D) (ci := 12) (v := .int (u457 24)) (C := RX12) (T := TX12) (N := 48) hx hb hg inC12 hown hK hP 0 rfl rfl 24 (by decide) (hg _ wt5_184) (fun _ h9 => h9) rfl dX12_tells_297 ?_
                            refine k_top (z := bq462) ebq462.symm ?_
                            refine lv_if_ne (tgt := 338) hx hb dX12_tells_300 (by decide) (fun c486 => ?_) (fun c486 => ?_)
                            · have b487 : kb 1 bq462 1 := kr_nel c486 b463 kc_0 (by decide)
                              refine lv_aload_n hx hb dX12_tells_338 rfl (lv_at hl 5 rfl) ?_
                              refine lv_dup hx hb dX12_tells_339 rfl ?_
                              refine va_get (D := D) (ci := 12) (v := .int (u457 22)) (C := RX12) (T := TX12) (N := 48) hx hb hg inC12 hown hK hP 0 rfl rfl 22 (by decide) (hg _ wt5_182) (fun _ h9 => h9) rfl dX12_tells_340 ?_
                              refine k_top (z := gv459) egv459.symm ?_
                              refine lv_iconst (v := 1) hx hb dX12_tells_343 (by decide) ?_
                              refine lv_iadd hx hb dX12_tells_344 ?_
                              refine lv_topi (fun t488 et488 => ?_)
                              have b489 : kb 1 t488 2802 := kb_eq et488 (kb_add b461 kc_1 (by decide) (by decide))
                              have qt488 : t488.toInt = gv459.toInt + 1 := by rw [et488]; exact kt_addc b461 kc_1 (by decide) (by decide)
                              have hg490 : t488.toInt = 400 * (t : Int) + ((jj + 1 : Nat) : Int) := by first | exact kn7_go qt488 hg460 | (rw [qt488, hg460]; omega)
                              refine va_put (D := D) (ci := 12) (v := .int t488) (ty := .int) (C := RX12) (T := TX12) (N := 48) hx hb hg inC12 tyX12 tyX12_ok nmX12 hown hK hP hD hS 0 rfl rfl 22 (by decide) (hg _ wt5_182) (fun _ h9 => h9) rfl (by decide +kernel) rfl rfl (Nat.le_of_ble_eq_true rfl) dX12_tells_345 (fun H locs hP hD hS => ?_)
                              have hP : va_P D vwCl (mW K o r (upd u457 22 t488) a_37 g) H := hP
                              have hD : va_D A (mW K o r (upd u457 22 t488) a_37 g) := hD
                              refine k_gen (P := fun z => va_P D vwCl (mW K o r z a_37 g) H ∧ va_D A (mW K o r z a_37 g) ∧ (mI z a_37) ∧ (mE (XR []) f a z a_37) ∧ (mZ [22, 23, 24, 25] [26] f a z a_37) ∧ (eS z a_37 t false)) (upd u457 22 t488) ⟨hP, hD, (mI_f hI (fI_st hI.1 22 (kb_any _) (by decide) (by decide))), (mE_f hE (by decide)), (mZ_f hZ rfl), (eS_f hk0 (by decide) (by decide))⟩ (fun f_491 ef_491 hq => ?_)
                              obtain ⟨hP, hD, hI, hE, hZ, hk0⟩ := hq
                              refine lv_goto (tgt := 198) hx hb dX12_tells_348 (by decide) ?_
                              exact ihlp53 (jj + 1) (cc + 1) f_491 _ _ _ y51 (by first | exact kn7_ml hmlp53 | (have w1 := hmlp53; omega)) hI hE hZ hk0 b55 (by rw [(show f_491 22 = t488 from kn7_u1 ef_491 rfl)]; exact hg490) (hnx.elim (fun q => Or.inl ⟨q.1, q.2.2.symm⟩) (fun q => Or.inr ⟨q.1, by first | exact kn7_sl q.2 | (have w1 := q.2; omega)⟩)) (by rw [lastOf_s, ct_t (mt_n hr464 c486)]; exact htd) (by first | exact Nat.succ_le_of_lt hcs.1 | (have w1 := hcs.1; omega)) hP hD hS (lv_sub hl [4, 5, 6, 7, 8, 9, 10] rfl)
                            · have b492 : kb 0 bq462 0 := kb_eq c486 kc_0
                              refine lv_iload hx hb dX12_tells_303 (lv_at hl 1 rfl) ?_
                              refine lv_if_ne (tgt := 338) hx hb dX12_tells_305 (by decide) (fun c493 => ?_) (fun c493 => ?_)
                              · have b494 : kb 1 bq443 1 := kr_nel c493 b444 kc_0 (by decide)
                                refine lv_aload_n hx hb dX12_tells_338 rfl (lv_at hl 5 rfl) ?_
                                refine lv_dup hx hb dX12_tells_339 rfl ?_
                                refine va_get (D := D) (ci := 12) (v := .int (u457 22)) (C := RX12) (T := TX12) (N := 48) hx hb hg inC12 hown hK hP 0 rfl rfl 22 (by decide) (hg _ wt5_182) (fun _ h9 => h9) rfl dX12_tells_340 ?_
                                refine k_top (z := gv459) egv459.symm ?_
                                refine lv_iconst (v := 1) hx hb dX12_tells_343 (by decide) ?_
                                refine lv_iadd hx hb dX12_tells_344 ?_
                                refine lv_topi (fun t495 et495 => ?_)
                                have b496 : kb 1 t495 2802 := kb_eq et495 (kb_add b461 kc_1 (by decide) (by decide))
                                have qt495 : t495.toInt = gv459.toInt + 1 := by rw [et495]; exact kt_addc b461 kc_1 (by decide) (by decide)
                                have hg497 : t495.toInt = 400 * (t : Int) + ((jj + 1 : Nat) : Int) := by first | exact kn7_go qt495 hg460 | (rw [qt495, hg460]; omega)
                                refine va_put (D := D) (ci := 12) (v := .int t495) (ty := .int) (C := RX12) (T := TX12) (N := 48) hx hb hg inC12 tyX12 tyX12_ok nmX12 hown hK hP hD hS 0 rfl rfl 22 (by decide) (hg _ wt5_182) (fun _ h9 => h9) rfl (by decide +kernel) rfl rfl (Nat.le_of_ble_eq_true rfl) dX12_tells_345 (fun H locs hP hD hS => ?_)
                                have hP : va_P D vwCl (mW K o r (upd u457 22 t495) a_37 g) H := hP
                                have hD : va_D A (mW K o r (upd u457 22 t495) a_37 g) := hD
                                refine k_gen (P := fun z => va_P D vwCl (mW K o r z a_37 g) H ∧ va_D A (mW K o r z a_37 g) ∧ (mI z a_37) ∧ (mE (XR []) f a z a_37) ∧ (mZ [22, 23, 24, 25] [26] f a z a_37) ∧ (eS z a_37 t false)) (upd u457 22 t495) ⟨hP, hD, (mI_f hI (fI_st hI.1 22 (kb_any _) (by decide) (by decide))), (mE_f hE (by decide)), (mZ_f hZ rfl), (eS_f hk0 (by decide) (by decide))⟩ (fun f_498 ef_498 hq => ?_)
                                obtain ⟨hP, hD, hI, hE, hZ, hk0⟩ := hq
                                refine lv_goto (tgt := 198) hx hb dX12_tells_348 (by decide) ?_
                                exact ihlp53 (jj + 1) (cc + 1) f_498 _ _ _ y51 (by first | exact kn7_ml hmlp53 | (have w1 := hmlp53; omega)) hI hE hZ hk0 b55 (by rw [(show f_498 22 = t495 from kn7_u1 ef_498 rfl)]; exact hg497) (hnx.elim (fun q => Or.inl ⟨q.1, q.2.2.symm⟩) (fun q => Or.inr ⟨q.1, by first | exact kn7_sl q.2 | (have w1 := q.2; omega)⟩)) (by rw [lastOf_s, ct_b (mr_n hr445 c493)]; exact htd) (by first | exact Nat.succ_le_of_lt hcs.1 | (have w1 := hcs.1; omega)) hP hD hS (lv_sub hl [4, 5, 6, 7, 8, 9, 10] rfl)
                              · have b499 : kb 0 bq443 0 := kb_eq c493 kc_0
                                refine lv_lload hx hb dX12_tells_308 (lv_at hl 2 rfl) ?_
                                refine lv_lconst (v := 0) hx hb dX12_tells_310 (by decide) ?_
                                refine W.lcmp hx hb dX12_tells_311 ?_
                                refine lv_topi (fun t500 et500 => ?_)
                                refine lv_if_ge (tgt := 319) hx hb dX12_tells_312 (by decide) (fun c501 => ?_) (fun c501 => ?_)
                                · have h502 := klc_ge (et500 ▸ c501)
                                  have b503 : kbl 0 v437 9223372036854775807 := klr_le2 h502 kcl_0 (kbl_any v437)
                                  refine lv_lload hx hb dX12_tells_319 (lv_at hl 2 rfl) ?_
                                  refine lv_iload hx hb dX12_tells_321 (lv_at hl 9 rfl) ?_
                                  refine lv_i2l hx hb dX12_tells_323 rfl ?_
                                  refine lv_topl (fun t504 et504 => ?_)
                                  have b505 : kbl 0 t504 20 := kbl_eq et504 (kbl_i2l bhi)
                                  refine W.lcmp hx hb dX12_tells_324 ?_
                                  refine lv_topi (fun t506 et506 => ?_)
                                  refine lv_if_le (tgt := 334) hx hb dX12_tells_325 (by decide) (fun c507 => ?_) (fun c507 => ?_)
                                  · have h508 := klc_le (et506 ▸ c507)
                                    have b509 : kbl 0 v437 20 := klr_le1 h508 b503 b505
                                    refine lv_lload hx hb dX12_tells_334 (lv_at hl 2 rfl) ?_
                                    refine lv_lstore (lv' := [(6, .long v437), (12, .int 1), (11, .int bq443), (9, .long v437), (8, .int 3), (0, .ref o), (1, .int hd), (2, .int bd), (3, .int pt), (4, .int hi), (5, .int wo)]) hx hb dX12_tells_336 hl (by decide) rfl (fun ls hl => ?_)
                                    refine lv_aload_n hx hb dX12_tells_338 rfl (lv_at hl 5 rfl) ?_
                                    refine lv_dup hx hb dX12_tells_339 rfl ?_
                                    refine va_get (D := D) (ci := 12) (v := .int (u457 22)) (C := RX12) (T := TX12) (N := 48) hx hb hg inC12 hown hK hP 0 rfl rfl 22 (by decide) (hg _ wt5_182) (fun _ h9 => h9) rfl dX12_tells_340 ?_
                                    refine k_top (z := gv459) egv459.symm ?_
                                    refine lv_iconst (v := 1) hx hb dX12_tells_343 (by decide) ?_
                                    refine lv_iadd hx hb dX12_tells_344 ?_
                                    refine lv_topi (fun t510 et510 => ?_)
                                    have b511 : kb 1 t510 2802 := kb_eq et510 (kb_add b461 kc_1 (by decide) (by decide))
                                    have qt510 : t510.toInt = gv459.toInt + 1 := by rw [et510]; exact kt_addc b461 kc_1 (by decide) (by decide)
                                    have hg512 : t510.toInt = 400 * (t : Int) + ((jj + 1 : Nat) : Int) := by first | exact kn7_go qt510 hg460 | (rw [qt510, hg460]; omega)
                                    refine va_put (D := D) (ci := 12) (v := .int t510) (ty := .int) (C := RX12) (T := TX12) (N := 48) hx hb hg inC12 tyX12 tyX12_ok nmX12 hown hK hP hD hS 0 rfl rfl 22 (by decide) (hg _ wt5_182) (fun _ h9 => h9) rfl (by decide +kernel) rfl rfl (Nat.le_of_ble_eq_true rfl) dX12_tells_345 (fun H locs hP hD hS => ?_)
                                    have hP : va_P D vwCl (mW K o r (upd u457 22 t510) a_37 g) H := hP
                                    have hD : va_D A (mW K o r (upd u457 22 t510) a_37 g) := hD
                                    refine k_gen (P := fun z => va_P D vwCl (mW K o r z a_37 g) H ∧ va_D A (mW K o r z a_37 g) ∧ (mI z a_37) ∧ (mE (XR []) f a z a_37) ∧ (mZ [22, 23, 24, 25] [26] f a z a_37) ∧ (eS z a_37 t false)) (upd u457 22 t510) ⟨hP, hD, (mI_f hI (fI_st hI.1 22 (kb_any _) (by decide) (by decide))), (mE_f hE (by decide)), (mZ_f hZ rfl), (eS_f hk0 (by decide) (by decide))⟩ (fun f_513 ef_513 hq => ?_)
                                    obtain ⟨hP, hD, hI, hE, hZ, hk0⟩ := hq
                                    refine lv_goto (tgt := 198) hx hb dX12_tells_348 (by decide) ?_
                                    exact ihlp53 (jj + 1) (cc + 1) f_513 _ _ _ v437 (by first | exact kn7_ml hmlp53 | (have w1 := hmlp53; omega)) hI hE hZ hk0 b509 (by rw [(show f_513 22 = t510 from kn7_u1 ef_513 rfl)]; exact hg512) (hnx.elim (fun q => Or.inl ⟨q.1, q.2.2.symm⟩) (fun q => Or.inr ⟨q.1, by first | exact kn7_sl q.2 | (have w1 := q.2; omega)⟩)) (by rw [lastOf_s, ct_y (hhk.trans (by rw [← c479]; decide +kernel)) (by have w1 := mt_1 hr464 c486; rw [kb_11 b478] at w1; exact w1) (mr_s hr445 c493)]; show (v437 : Int64).toInt = max 0 (min hi.toInt (v437.toInt)); have w0 := bhi.1; have k0 : (0 : Int64).toInt = 0 := (by decide +kernel); have k1 : (1 : Int64).toInt = 1 := (by decide +kernel); have k9t504 : t504.toInt = hi.toInt := (congrArg Int64.toInt et504).trans (kt_i2l _); omega) (by first | exact Nat.succ_le_of_lt hcs.1 | (have w1 := hcs.1; omega)) hP hD hS (lv_sub hl [0, 5, 6, 7, 8, 9, 10] rfl)
                                  · have h514 := klc_nle (et506 ▸ c507)
                                    have b515 : kbl 1 v437 9223372036854775807 := klr_lt2 h514 b505 b503 (by decide)
                                    refine lv_iload hx hb dX12_tells_328 (lv_at hl 9 rfl) ?_
                                    refine lv_i2l hx hb dX12_tells_330 rfl ?_
                                    refine lv_topl (fun t516 et516 => ?_)
                                    have b517 : kbl 0 t516 20 := kbl_eq et516 (kbl_i2l bhi)
                                    refine lv_goto (tgt := 336) hx hb dX12_tells_331 (by decide) ?_
                                    refine lv_lstore (lv' := [(6, .long t516), (12, .int 1), (11, .int bq443), (9, .long v437), (8, .int 3), (0, .ref o), (1, .int hd), (2, .int bd), (3, .int pt), (4, .int hi), (5, .int wo)]) hx hb dX12_tells_336 hl (by decide) rfl (fun ls hl => ?_)
                                    refine lv_aload_n hx hb dX12_tells_338 rfl (lv_at hl 5 rfl) ?_
                                    refine lv_dup hx hb dX12_tells_339 rfl ?_
                                    refine va_get (D := D) (ci := 12) (v := .int (u457 22)) (C := RX12) (T := TX12) (N := 48) hx hb hg inC12 hown hK hP 0 rfl rfl 22 (by decide) (hg _ wt5_182) (fun _ h9 => h9) rfl dX12_tells_340 ?_
                                    refine k_top (z := gv459) egv459.symm ?_
                                    refine lv_iconst (v := 1) hx hb dX12_tells_343 (by decide) ?_
                                    refine lv_iadd hx hb dX12_tells_344 ?_
                                    refine lv_topi (fun t518 et518 => ?_)
                                    have b519 : kb 1 t518 2802 := kb_eq et518 (kb_add b461 kc_1 (by decide) (by decide))
                                    have qt518 : t518.toInt = gv459.toInt + 1 := by rw [et518]; exact kt_addc b461 kc_1 (by decide) (by decide)
                                    have hg520 : t518.toInt = 400 * (t : Int) + ((jj + 1 : Nat) : Int) := by first | exact kn7_go qt518 hg460 | (rw [qt518, hg460]; omega)
                                    refine va_put (D := D) (ci := 12) (v := .int t518) (ty := .int) (C := RX12) (T := TX12) (N := 48) hx hb hg inC12 tyX12 tyX12_ok nmX12 hown hK hP hD hS 0 rfl rfl 22 (by decide) (hg _ wt5_182) (fun _ h9 => h9) rfl (by decide +kernel) rfl rfl (Nat.le_of_ble_eq_true rfl) dX12_tells_345 (fun H locs hP hD hS => ?_)
                                    have hP : va_P D vwCl (mW K o r (upd u457 22 t518) a_37 g) H := hP
                                    have hD : va_D A (mW K o r (upd u457 22 t518) a_37 g) := hD
                                    refine k_gen (P := fun z => va_P D vwCl (mW K o r z a_37 g) H ∧ va_D A (mW K o r z a_37 g) ∧ (mI z a_37) ∧ (mE (XR []) f a z a_37) ∧ (mZ [22, 23, 24, 25] [26] f a z a_37) ∧ (eS z a_37 t false)) (upd u457 22 t518) ⟨hP, hD, (mI_f hI (fI_st hI.1 22 (kb_any _) (by decide) (by decide))), (mE_f hE (by decide)), (mZ_f hZ rfl), (eS_f hk0 (by decide) (by decide))⟩ (fun f_521 ef_521 hq => ?_)
                                    obtain ⟨hP, hD, hI, hE, hZ, hk0⟩ := hq
                                    refine lv_goto (tgt := 198) hx hb dX12_tells_348 (by decide) ?_
                                    exact ihlp53 (jj + 1) (cc + 1) f_521 _ _ _ t516 (by first | exact kn7_ml hmlp53 | (have w1 := hmlp53; omega)) hI hE hZ hk0 b517 (by rw [(show f_521 22 = t518 from kn7_u1 ef_521 rfl)]; exact hg520) (hnx.elim (fun q => Or.inl ⟨q.1, q.2.2.symm⟩) (fun q => Or.inr ⟨q.1, by first | exact kn7_sl q.2 | (have w1 := q.2; omega)⟩)) (by rw [lastOf_s, ct_y (hhk.trans (by rw [← c479]; decide +kernel)) (by have w1 := mt_1 hr464 c486; rw [kb_11 b478] at w1; exact w1) (mr_s hr445 c493)]; show (t516 : Int64).toInt = max 0 (min hi.toInt (v437.toInt)); have w0 := bhi.1; have k0 : (0 : Int64).toInt = 0 := (by decide +kernel); have k1 : (1 : Int64).toInt = 1 := (by decide +kernel); have k9 : t516.toInt = hi.toInt := (congrArg Int64.toInt et516).trans (kt_i2l _); have k9t504 : t504.toInt = hi.toInt := (congrArg Int64.toInt et504).trans (kt_i2l _); have k9t516 : t516.toInt = hi.toInt := (congrArg Int64.toInt et516).trans (kt_i2l _); omega) (by first | exact Nat.succ_le_of_lt hcs.1 | (have w1 := hcs.1; omega)) hP hD hS (lv_sub hl [0, 5, 6, 7, 8, 9, 10] rfl)
                                · have h522 := klc_nge (et500 ▸ c501)
                                  have b523 : kbl (-9223372036854775808) v437 (-1) := klr_lt1 h522 (kbl_any v437) kcl_0 (by decide)
                                  refine lv_lconst (v := 0) hx hb dX12_tells_315 (by decide) ?_
                                  refine lv_goto (tgt := 336) hx hb dX12_tells_316 (by decide) ?_
                                  refine lv_lstore (lv' := [(6, .long 0), (12, .int 1), (11, .int bq443), (9, .long v437), (8, .int 3), (0, .ref o), (1, .int hd), (2, .int bd), (3, .int pt), (4, .int hi), (5, .int wo)]) hx hb dX12_tells_336 hl (by decide) rfl (fun ls hl => ?_)
                                  refine lv_aload_n hx hb dX12_tells_338 rfl (lv_at hl 5 rfl) ?_
                                  refine lv_dup hx hb dX12_tells_339 rfl ?_
                                  refine va_get (D := D) (ci := 12) (v := .int (u457 22)) (C := RX12) (T := TX12) (N := 48) hx hb hg inC12 hown hK hP 0 rfl rfl 22 (by decide) (hg _ wt5_182) (fun _ h9 => h9) rfl dX12_tells_340 ?_
                                  refine k_top (z := gv459) egv459.symm ?_
                                  refine lv_iconst (v := 1) hx hb dX12_tells_343 (by decide) ?_
                                  refine lv_iadd hx hb dX12_tells_344 ?_
                                  refine lv_topi (fun t524 et524 => ?_)
                                  have b525 : kb 1 t524 2802 := kb_eq et524 (kb_add b461 kc_1 (by decide) (by decide))
                                  have qt524 : t524.toInt = gv459.toInt + 1 := by rw [et524]; exact kt_addc b461 kc_1 (by decide) (by decide)
                                  have hg526 : t524.toInt = 400 * (t : Int) + ((jj + 1 : Nat) : Int) := by first | exact kn7_go qt524 hg460 | (rw [qt524, hg460]; omega)
                                  refine va_put (D := D) (ci := 12) (v := .int t524) (ty := .int) (C := RX12) (T := TX12) (N := 48) hx hb hg inC12 tyX12 tyX12_ok nmX12 hown hK hP hD hS 0 rfl rfl 22 (by decide) (hg _ wt5_182) (fun _ h9 => h9) rfl (by decide +kernel) rfl rfl (Nat.le_of_ble_eq_true rfl) dX12_tells_345 (fun H locs hP hD hS => ?_)
                                  have hP : va_P D vwCl (mW K o r (upd u457 22 t524) a_37 g) H := hP
                                  have hD : va_D A (mW K o r (upd u457 22 t524) a_37 g) := hD
                                  refine k_gen (P := fun z => va_P D vwCl (mW K o r z a_37 g) H ∧ va_D A (mW K o r z a_37 g) ∧ (mI z a_37) ∧ (mE (XR []) f a z a_37) ∧ (mZ [22, 23, 24, 25] [26] f a z a_37) ∧ (eS z a_37 t false)) (upd u457 22 t524) ⟨hP, hD, (mI_f hI (fI_st hI.1 22 (kb_any _) (by decide) (by decide))), (mE_f hE (by decide)), (mZ_f hZ rfl), (eS_f hk0 (by decide) (by decide))⟩ (fun f_527 ef_527 hq => ?_)
                                  obtain ⟨hP, hD, hI, hE, hZ, hk0⟩ := hq
                                  refine lv_goto (tgt := 198) hx hb dX12_tells_348 (by decide) ?_
                                  exact ihlp53 (jj + 1) (cc + 1) f_527 _ _ _ 0 (by first | exact kn7_ml hmlp53 | (have w1 := hmlp53; omega)) hI hE hZ hk0 (kbl_w kcl_0 (by decide) (by decide)) (by rw [(show f_527 22 = t524 from kn7_u1 ef_527 rfl)]; exact hg526) (hnx.elim (fun q => Or.inl ⟨q.1, q.2.2.symm⟩) (fun q => Or.inr ⟨q.1, by first | exact kn7_sl q.2 | (have w1 := q.2; omega)⟩)) (by rw [lastOf_s, ct_y (hhk.trans (by rw [← c479]; decide +kernel)) (by have w1 := mt_1 hr464 c486; rw [kb_11 b478] at w1; exact w1) (mr_s hr445 c493)]; show (0 : Int64).toInt = max 0 (min hi.toInt (v437.toInt)); have w0 := bhi.1; have k0 : (0 : Int64).toInt = 0 := (by decide +kernel); have k1 : (1 : Int64).toInt = 1 := (by decide +kernel); omega) (by first | exact Nat.succ_le_of_lt hcs.1 | (have w1 := hcs.1; omega)) hP hD hS (lv_sub hl [0, 5, 6, 7, 8, 9, 10] rfl)
                  · exact kb_dj c435 kc_3 kc_4 (by decide)
              · subst hj
                refine lv_aload_n hx hb dX12_tells_198 rfl (lv_at hl 1 rfl) ?_
                refine va_get (D := D) (ci := 12) (v := .int (F52 22)) (C := RX12) (T := TX12) (N := 48) hx hb hg inC12 hown hK hP 0 rfl rfl 22 (by decide) (hg _ wt5_182) (fun _ h9 => h9) rfl dX12_tells_199 ?_
                refine k_top (z := gv56) egv56.symm ?_
                refine lv_aload_n hx hb dX12_tells_202 rfl (lv_at hl 1 rfl) ?_
                refine va_get (D := D) (ci := 12) (v := .int (F52 23)) (C := RX12) (T := TX12) (N := 48) hx hb hg inC12 hown hK hP 0 rfl rfl 23 (by decide) (hg _ wt5_183) (fun _ h9 => h9) rfl dX12_tells_203 ?_
                refine lv_topi (fun t528 et528 => ?_)
                refine lv_icmp_ge (tgt := 351) hx hb dX12_tells_206 (by decide) (fun c529 => ?_) (fun c529 => ?_)
                · exact absurd (kc_le c529) (by have w1 := congrArg Int32.toInt et528.symm; have w2 := hk0.2.1; have w3 := hg57; have w4 := mC_lS hk0 (ne_0 (tq_y hp2 (x := 3) (y := 2006) (by decide +kernel) (by decide +kernel) h1) (by decide +kernel)); omega)
                · have h530 := (kc_nle c529)
                  have b531 : kb 1 t528 2147483647 := kr_lt2 h530 b422 (kb_any t528) (by decide)
                  refine lv_aload_n hx hb dX12_tells_209 rfl (lv_at hl 1 rfl) ?_
                  refine lv_aload_n hx hb dX12_tells_210 rfl (lv_at hl 1 rfl) ?_
                  refine va_get (D := D) (ci := 12) (v := .int (F52 22)) (C := RX12) (T := TX12) (N := 48) hx hb hg inC12 hown hK hP 0 rfl rfl 22 (by decide) (hg _ wt5_182) (fun _ h9 => h9) rfl dX12_tells_211 ?_
                  refine k_top (z := gv56) egv56.symm ?_
                  refine kI.callV (As := [.int gv56]) (rest := []) ⟨hx, hb, hml, hown, hg⟩ (m_codeAt l o r F52 a_37 g hI gv56  t (i) false hk0 hg57) (cwV 1 hg (kgV wt7_47 wt7_49 wp5_8 wt1_14 wt7_50) rfl rfl rfl (by decide +kernel) ⟨by decide, by decide⟩) hK hP hD hS hA mIs [] rfl (wr := []) rfl rfl rfl (fun i h => by cases h) 0 12 rfl rfl rfl hl.1 rfl (Nat.le_of_ble_eq_true rfl) dX12_tells_214 ⟨Nat.le_refl _, Nat.le_refl _⟩ (fun v533 u534 H locs hw532 hP hD hS => ?_)
                  have hP : va_P D vwCl (mW K o r F52 a_37 g) H := hP
                  have hD : va_D A (mW K o r F52 a_37 g) := hD
                  refine k_top (z := 3) (hw532.2.trans (tq_y hp2 (x := 3) (y := 2006) (by decide +kernel) (by decide +kernel) h1)) ?_
                  refine lv_istore (lv' := [(8, .int 3), (6, .long y51), (0, .ref o), (1, .int hd), (2, .int bd), (3, .int pt), (4, .int hi), (5, .int wo)]) hx hb dX12_tells_217 hl (by decide) rfl (fun ls hl => ?_)
                  refine lv_aload_n hx hb dX12_tells_219 rfl (lv_at hl 2 rfl) ?_
                  refine lv_iconst (v := 0) hx hb dX12_tells_220 (by decide) ?_
                  refine va_put (D := D) (ci := 12) (v := .int 0) (ty := .boolean) (C := RX12) (T := TX12) (N := 48) hx hb hg inC12 tyX12 tyX12_ok nmX12 hown hK hP hD hS 0 rfl rfl 24 (by decide) (hg _ wt5_184) (fun _ h9 => h9) rfl (by decide +kernel) rfl rfl (Nat.le_of_ble_eq_true rfl) dX12_tells_221 (fun H locs hP hD hS => ?_)
                  have hP : va_P D vwCl (mW K o r (upd F52 24 0) a_37 g) H := hP
                  have hD : va_D A (mW K o r (upd F52 24 0) a_37 g) := hD
                  refine k_gen (P := fun z => va_P D vwCl (mW K o r z a_37 g) H ∧ va_D A (mW K o r z a_37 g) ∧ (mI z a_37) ∧ (mE (XR []) f a z a_37) ∧ (mZ [22, 23, 24, 25] [26] f a z a_37) ∧ (eS z a_37 t false)) (upd F52 24 0) ⟨hP, hD, (mI_f hI (fI_st hI.1 24 kc_0 (by decide) (by decide))), (mE_f hE (by decide)), (mZ_f hZ rfl), (eS_f hk0 (by decide) (by decide))⟩ (fun f_535 ef_535 hq => ?_)
                  obtain ⟨hP, hD, hI, hE, hZ, hk0⟩ := hq
                  refine lv_aload_n hx hb dX12_tells_224 rfl (lv_at hl 2 rfl) ?_
                  refine lv_dup hx hb dX12_tells_225 rfl ?_
                  refine va_get (D := D) (ci := 12) (v := .int (f_535 22)) (C := RX12) (T := TX12) (N := 48) hx hb hg inC12 hown hK hP 0 rfl rfl 22 (by decide) (hg _ wt5_182) (fun _ h9 => h9) rfl dX12_tells_226 ?_
                  refine k_top (z := gv56) ((show f_535 22 = F52 22 from kn7_u1 ef_535 rfl).trans egv56.symm) ?_
                  refine lv_iconst (v := 1) hx hb dX12_tells_229 (by decide) ?_
                  refine lv_iadd hx hb dX12_tells_230 ?_
                  refine lv_topi (fun t536 et536 => ?_)
                  have b537 : kb 1 t536 2800 := kb_eq et536 (kb_add b422 kc_1 (by decide) (by decide))
                  have qt536 : t536.toInt = gv56.toInt + 1 := by rw [et536]; exact kt_addc b422 kc_1 (by decide) (by decide)
                  have hg538 : t536.toInt = 400 * (t : Int) + ((i + 1 : Nat) : Int) := by first | exact kn7_go qt536 hg57 | (rw [qt536, hg57]; omega)
                  refine va_put (D := D) (ci := 12) (v := .int t536) (ty := .int) (C := RX12) (T := TX12) (N := 48) hx hb hg inC12 tyX12 tyX12_ok nmX12 hown hK hP hD hS 0 rfl rfl 22 (by decide) (hg _ wt5_182) (fun _ h9 => h9) rfl (by decide +kernel) rfl rfl (Nat.le_of_ble_eq_true rfl) dX12_tells_231 (fun H locs hP hD hS => ?_)
                  have hP : va_P D vwCl (mW K o r (upd f_535 22 t536) a_37 g) H := hP
                  have hD : va_D A (mW K o r (upd f_535 22 t536) a_37 g) := hD
                  refine k_gen (P := fun z => va_P D vwCl (mW K o r z a_37 g) H ∧ va_D A (mW K o r z a_37 g) ∧ (mI z a_37) ∧ (mE (XR []) f a z a_37) ∧ (mZ [22, 23, 24, 25] [26] f a z a_37) ∧ (eS z a_37 t false)) (upd f_535 22 t536) ⟨hP, hD, (mI_f hI (fI_st hI.1 22 (kb_any _) (by decide) (by decide))), (mE_f hE (by decide)), (mZ_f hZ rfl), (eS_f hk0 (by decide) (by decide))⟩ (fun f_539 ef_539 hq => ?_)
                  obtain ⟨hP, hD, hI, hE, hZ, hk0⟩ := hq
                  refine lv_iload hx hb dX12_tells_234 (lv_at hl 0 rfl) ?_
                  refine lv_iconst (v := 4) hx hb dX12_tells_236 (by decide) ?_
                  refine lv_icmp_ne (tgt := 244) hx hb dX12_tells_237 (by decide) (fun c540 => ?_) (fun c540 => ?_)
                  · refine lv_aload_n hx hb dX12_tells_244 rfl (lv_at hl 2 rfl) ?_
                    refine lv_iconst (v := 1) hx hb dX12_tells_245 (by decide) ?_
                    refine kL.callV (As := [.int 1]) (rest := []) ⟨hx, hb, hml, hown, hg⟩ ((n_allSum 8) l o r f_539 a_37 g hI 1 (kb_w kc_1 (by decide) (by decide)) t (i + 1) (jj) false T (lwW (a 2) bd pt) ((DD (a 2 106).toInt.toNat).2.2.2.2.1 cc) hk0 (by rw [(show f_539 22 = t536 from kn7_u1 ef_539 rfl)]; exact hg538) hp2 (hp3 f_539) hs) (cwV 1 hg (kgV wt7_51 wt7_53 wp5_9 wt1_14 wt7_54) rfl rfl rfl (by decide +kernel) ⟨by decide, by decide⟩) hK hP hD hS hA mIs [] rfl (wr := []) rfl rfl rfl (fun i h => by cases h) 0 12 rfl rfl rfl hl.1 rfl (Nat.le_of_ble_eq_true rfl) dX12_tells_246 ⟨Nat.le_refl _, Nat.le_refl _⟩ (fun v542 u543 H locs hw541 hP hD hS => ?_)
                    have hP : va_P D vwCl (mW K o r u543 a_37 g) H := hP
                    have hD : va_D A (mW K o r u543 a_37 g) := hD
                    have hI : mI u543 a_37 := hw541.2.1
                    have eE544 : fE [22, 24] f_539 u543 := hw541.2.2.1
                    have hE : mE (XR []) f a u543 a_37 := mE_fE hE eE544 (by decide)
                    have hZ : mZ [22, 23, 24, 25] [26] f a u543 a_37 := mZ_fE hZ (fE_w (by decide) eE544)
                    have hk0 : eS u543 a_37 t false := eS_fE eE544 hk0 (by decide) (by decide)
                    obtain ⟨gv545, egv545⟩ : ∃ z : Int32, z = u543 22 := ⟨_, rfl⟩
                    have hg546 : gv545.toInt = 400 * (t : Int) + ((jj : Nat) : Int) := by rw [egv545]; exact hw541.2.2.2.1
                    have b547 : kb 0 gv545 2801 := kb_go1 hk0 (by have w1 := hk0.2.2.2.2; omega) hg546
                    obtain ⟨bq548, ebq548⟩ : ∃ z : Int32, z = u543 24 := ⟨_, rfl⟩
                    have b549 : kb 0 bq548 1 := kb_eq ebq548 (fI_at hI.1 24 (by decide) (by decide))
                    have hr550 : mRs 1 0 (((DD (a 2 106).toInt.toNat).2.2.2.2.1 cc) (lwW (a 2) bd pt)) bq548 v542.toInt := by have w1 := hw541.2.2.2.2; rw [((show f_539 24 = f_535 24 from kn7_u1 ef_539 rfl).trans (show f_535 24 = 0 from kn7_u1 ef_535 rfl)), ← ebq548] at w1; exact w1
                    refine lv_lstore (lv' := [(9, .long v542), (8, .int 3), (6, .long y51), (0, .ref o), (1, .int hd), (2, .int bd), (3, .int pt), (4, .int hi), (5, .int wo)]) hx hb dX12_tells_249 hl (by decide) rfl (fun ls hl => ?_)
                    refine lv_aload_n hx hb dX12_tells_251 rfl (lv_at hl 3 rfl) ?_
                    refine va_get (D := D) (ci := 12) (v := .int (u543 24)) (C := RX12) (T := TX12) (N := 48) hx hb hg inC12 hown hK hP 0 rfl rfl 24 (by decide) (hg _ wt5_184) (fun _ h9 => h9) rfl dX12_tells_252 ?_
                    refine k_top (z := bq548) ebq548.symm ?_
                    refine lv_istore (lv' := [(11, .int bq548), (9, .long v542), (8, .int 3), (6, .long y51), (0, .ref o), (1, .int hd), (2, .int bd), (3, .int pt), (4, .int hi), (5, .int wo)]) hx hb dX12_tells_255 hl (by decide) rfl (fun ls hl => ?_)
                    refine lv_aload_n hx hb dX12_tells_257 rfl (lv_at hl 4 rfl) ?_
                    refine lv_iconst (v := 0) hx hb dX12_tells_258 (by decide) ?_
                    refine va_put (D := D) (ci := 12) (v := .int 0) (ty := .boolean) (C := RX12) (T := TX12) (N := 48) hx hb hg inC12 tyX12 tyX12_ok nmX12 hown hK hP hD hS 0 rfl rfl 24 (by decide) (hg _ wt5_184) (fun _ h9 => h9) rfl (by decide +kernel) rfl rfl (Nat.le_of_ble_eq_true rfl) dX12_tells_259 (fun H locs hP hD hS => ?_)
                    have hP : va_P D vwCl (mW K o r (upd u543 24 0) a_37 g) H := hP
                    have hD : va_D A (mW K o r (upd u543 24 0) a_37 g) := hD
                    refine k_gen (P := fun z => va_P D vwCl (mW K o r z a_37 g) H ∧ va_D A (mW K o r z a_37 g) ∧ (mI z a_37) ∧ (mE (XR []) f a z a_37) ∧ (mZ [22, 23, 24, 25] [26] f a z a_37) ∧ (eS z a_37 t false)) (upd u543 24 0) ⟨hP, hD, (mI_f hI (fI_st hI.1 24 kc_0 (by decide) (by decide))), (mE_f hE (by decide)), (mZ_f hZ rfl), (eS_f hk0 (by decide) (by decide))⟩ (fun f_551 ef_551 hq => ?_)
                    obtain ⟨hP, hD, hI, hE, hZ, hk0⟩ := hq
                    refine lv_aload_n hx hb dX12_tells_262 rfl (lv_at hl 4 rfl) ?_
                    refine lv_iconst (v := 5) hx hb dX12_tells_263 (by decide) ?_
                    refine kI.callV (As := [.int 5]) (rest := []) ⟨hx, hb, hml, hown, hg⟩ (m_passes0 l o r f_551 a_37 g hI 5 (kb_w kc_5 (by decide) (by decide)) t (jj) false hk0 (by rw [((show f_551 22 = u543 22 from kn7_u1 ef_551 rfl).trans egv545.symm)]; exact hg546)) (cwV 1 hg (kgV wt7_63 wt7_65 wp5_12 wt1_14 wt7_66) rfl rfl rfl (by decide +kernel) ⟨by decide, by decide⟩) hK hP hD hS hA mIs [] rfl (wr := []) rfl rfl rfl (fun i h => by cases h) 0 12 rfl rfl rfl hl.1 rfl (Nat.le_of_ble_eq_true rfl) dX12_tells_264 ⟨Nat.le_refl _, Nat.le_refl _⟩ (fun v553 u554 H locs hw552 hP hD hS => ?_)
                    have hP : va_P D vwCl (mW K o r u554 a_37 g) H := hP
                    have hD : va_D A (mW K o r u554 a_37 g) := hD
                    have hI : mI u554 a_37 := hw552.2.1
                    have eE555 : fE [22] f_551 u554 := hw552.2.2.1
                    have hE : mE (XR []) f a u554 a_37 := mE_fE hE eE555 (by decide)
                    have hZ : mZ [22, 23, 24, 25] [26] f a u554 a_37 := mZ_fE hZ (fE_w (by decide) eE555)
                    have hk0 : eS u554 a_37 t false := eS_fE eE555 hk0 (by decide) (by decide)
                    have hz556 := pass_n hw552.2.2.2 (tq_n hp2 (x := 5) (y := 2003) (by decide +kernel) (by decide +kernel) h2)
                    refine k_top (z := 0) hz556.1 ?_
                    obtain ⟨gv557, egv557⟩ : ∃ z : Int32, z = u554 22 := ⟨_, rfl⟩
                    have hg558 : gv557.toInt = 400 * (t : Int) + ((jj : Nat) : Int) := by rw [egv557]; exact hz556.2
                    have b559 : kb 0 gv557 2801 := kb_go1 hk0 (by have w1 := hk0.2.2.2.2; omega) hg558
                    refine lv_if_eq (tgt := 278) hx hb dX12_tells_267 (by decide) (fun c560 => ?_) (fun c560 => ?_)
                    · refine lv_iconst (v := 1) hx hb dX12_tells_278 (by decide) ?_
                      refine lv_goto (tgt := 283) hx hb dX12_tells_279 (by decide) ?_
                      refine lv_istore (lv' := [(12, .int 1), (11, .int bq548), (9, .long v542), (8, .int 3), (6, .long y51), (0, .ref o), (1, .int hd), (2, .int bd), (3, .int pt), (4, .int hi), (5, .int wo)]) hx hb dX12_tells_283 hl (by decide) rfl (fun ls hl => ?_)
                      refine lv_iload hx hb dX12_tells_285 (lv_at hl 3 rfl) ?_
                      refine lv_iload_n hx hb dX12_tells_287 rfl (lv_at hl 6 rfl) ?_
                      refine lv_icmp_ne (tgt := 338) hx hb dX12_tells_288 (by decide) (fun c561 => ?_) (fun c561 => ?_)
                      · refine lv_aload_n hx hb dX12_tells_338 rfl (lv_at hl 5 rfl) ?_
                        refine lv_dup hx hb dX12_tells_339 rfl ?_
                        refine va_get (D := D) (ci := 12) (v := .int (u554 22)) (C := RX12) (T := TX12) (N := 48) hx hb hg inC12 hown hK hP 0 rfl rfl 22 (by decide) (hg _ wt5_182) (fun _ h9 => h9) rfl dX12_tells_340 ?_
                        refine k_top (z := gv557) egv557.symm ?_
                        refine lv_iconst (v := 1) hx hb dX12_tells_343 (by decide) ?_
                        refine lv_iadd hx hb dX12_tells_344 ?_
                        refine lv_topi (fun t562 et562 => ?_)
                        have b563 : kb 1 t562 2802 := kb_eq et562 (kb_add b559 kc_1 (by decide) (by decide))
                        have qt562 : t562.toInt = gv557.toInt + 1 := by rw [et562]; exact kt_addc b559 kc_1 (by decide) (by decide)
                        have hg564 : t562.toInt = 400 * (t : Int) + ((jj + 1 : Nat) : Int) := by first | exact kn7_go qt562 hg558 | (rw [qt562, hg558]; omega)
                        refine va_put (D := D) (ci := 12) (v := .int t562) (ty := .int) (C := RX12) (T := TX12) (N := 48) hx hb hg inC12 tyX12 tyX12_ok nmX12 hown hK hP hD hS 0 rfl rfl 22 (by decide) (hg _ wt5_182) (fun _ h9 => h9) rfl (by decide +kernel) rfl rfl (Nat.le_of_ble_eq_true rfl) dX12_tells_345 (fun H locs hP hD hS => ?_)
                        have hP : va_P D vwCl (mW K o r (upd u554 22 t562) a_37 g) H := hP
                        have hD : va_D A (mW K o r (upd u554 22 t562) a_37 g) := hD
                        refine k_gen (P := fun z => va_P D vwCl (mW K o r z a_37 g) H ∧ va_D A (mW K o r z a_37 g) ∧ (mI z a_37) ∧ (mE (XR []) f a z a_37) ∧ (mZ [22, 23, 24, 25] [26] f a z a_37) ∧ (eS z a_37 t false)) (upd u554 22 t562) ⟨hP, hD, (mI_f hI (fI_st hI.1 22 (kb_any _) (by decide) (by decide))), (mE_f hE (by decide)), (mZ_f hZ rfl), (eS_f hk0 (by decide) (by decide))⟩ (fun f_565 ef_565 hq => ?_)
                        obtain ⟨hP, hD, hI, hE, hZ, hk0⟩ := hq
                        refine lv_goto (tgt := 198) hx hb dX12_tells_348 (by decide) ?_
                        exact ihlp53 (jj + 1) (cc + 1) f_565 _ _ _ y51 (by first | exact kn7_ml hmlp53 | (have w1 := hmlp53; omega)) hI hE hZ hk0 b55 (by rw [(show f_565 22 = t562 from kn7_u1 ef_565 rfl)]; exact hg564) (hnx.elim (fun q => Or.inl ⟨q.1, q.2.2.symm⟩) (fun q => Or.inr ⟨q.1, by first | exact kn7_sl q.2 | (have w1 := q.2; omega)⟩)) (by rw [lastOf_s, ct_n (fun q => c561 (Int32.toInt_inj.mp (by first | exact (kHd_j (hhk.symm.trans q) bhd).trans (by decide +kernel) | (have w1 := kHd_j (hhk.symm.trans q) bhd; have w2 : (3 : Int32).toInt = 3 := (by decide +kernel); omega))))]; exact htd) (by first | exact Nat.succ_le_of_lt hcs.1 | (have w1 := hcs.1; omega)) hP hD hS (lv_sub hl [4, 5, 6, 7, 8, 9, 10] rfl)
                      · have b566 : kb 3 hd 3 := kb_eq c561.symm kc_3
                        refine lv_iload hx hb dX12_tells_291 (lv_at hl 0 rfl) ?_
                        refine lv_if_eq (tgt := 338) hx hb dX12_tells_293 (by decide) (fun c567 => ?_) (fun c567 => ?_)
                        · exact kb_dj c567 kc_1 kc_0 (by decide)
                        · refine lv_aload_n hx hb dX12_tells_296 rfl (lv_at hl 5 rfl) ?_
                          refine va_get (D := D) (ci := 12) (v := .int (u554 24)) (C := RX12) (T := TX12) (N := 48) hx hb hg inC12 hown hK hP 0 rfl rfl 24 (by decide) (hg _ wt5_184) (fun _ h9 => h9) rfl dX12_tells_297 ?_
                          refine k_top (z := 0) ((eE555 24 (by decide)).trans (show f_551 24 = 0 from kn7_u1 ef_551 rfl)) ?_
                          refine lv_if_ne (tgt := 338) hx hb dX12_tells_300 (by decide) (fun c568 => ?_) (fun c568 => ?_)
                          · exact kb_nsame c568 kc_0 kc_0
                          · refine lv_iload hx hb dX12_tells_303 (lv_at hl 1 rfl) ?_
                            refine lv_if_ne (tgt := 338) hx hb dX12_tells_305 (by decide) (fun c569 => ?_) (fun c569 => ?_)
                            · have b570 : kb 1 bq548 1 := kr_nel c569 b549 kc_0 (by decide)
                              refine lv_aload_n hx hb dX12_tells_338 rfl (lv_at hl 5 rfl) ?_
                              refine lv_dup hx hb dX12_tells_339 rfl ?_
                              refine va_get (D := D) (ci := 12) (v := .int (u554 22)) (C := RX12) (T := TX12) (N := 48) hx hb hg inC12 hown hK hP 0 rfl rfl 22 (by decide) (hg _ wt5_182) (fun _ h9 => h9) rfl dX12_tells_340 ?_
                              refine k_top (z := gv557) egv557.symm ?_
                              refine lv_iconst (v := 1) hx hb dX12_tells_343 (by decide) ?_
                              refine lv_iadd hx hb dX12_tells_344 ?_
                              refine lv_topi (fun t571 et571 => ?_)
                              have b572 : kb 1 t571 2802 := kb_eq et571 (kb_add b559 kc_1 (by decide) (by decide))
                              have qt571 : t571.toInt = gv557.toInt + 1 := by rw [et571]; exact kt_addc b559 kc_1 (by decide) (by decide)
                              have hg573 : t571.toInt = 400 * (t : Int) + ((jj + 1 : Nat) : Int) := by first | exact kn7_go qt571 hg558 | (rw [qt571, hg558]; omega)
                              refine va_put (D := D) (ci := 12) (v := .int t571) (ty := .int) (C := RX12) (T := TX12) (N := 48) hx hb hg inC12 tyX12 tyX12_ok nmX12 hown hK hP hD hS 0 rfl rfl 22 (by decide) (hg _ wt5_182) (fun _ h9 => h9) rfl (by decide +kernel) rfl rfl (Nat.le_of_ble_eq_true rfl) dX12_tells_345 (fun H locs hP hD hS => ?_)
                              have hP : va_P D vwCl (mW K o r (upd u554 22 t571) a_37 g) H := hP
                              have hD : va_D A (mW K o r (upd u554 22 t571) a_37 g) := hD
                              refine k_gen (P := fun z => va_P D vwCl (mW K o r z a_37 g) H ∧ va_D A (mW K o r z a_37 g) ∧ (mI z a_37) ∧ (mE (XR []) f a z a_37) ∧ (mZ [22, 23, 24, 25] [26] f a z a_37) ∧ (eS z a_37 t false)) (upd u554 22 t571) ⟨hP, hD, (mI_f hI (fI_st hI.1 22 (kb_any _) (by decide) (by decide))), (mE_f hE (by decide)), (mZ_f hZ rfl), (eS_f hk0 (by decide) (by decide))⟩ (fun f_574 ef_574 hq => ?_)
                              obtain ⟨hP, hD, hI, hE, hZ, hk0⟩ := hq
                              refine lv_goto (tgt := 198) hx hb dX12_tells_348 (by decide) ?_
                              exact ihlp53 (jj + 1) (cc + 1) f_574 _ _ _ y51 (by first | exact kn7_ml hmlp53 | (have w1 := hmlp53; omega)) hI hE hZ hk0 b55 (by rw [(show f_574 22 = t571 from kn7_u1 ef_574 rfl)]; exact hg573) (hnx.elim (fun q => Or.inl ⟨q.1, q.2.2.symm⟩) (fun q => Or.inr ⟨q.1, by first | exact kn7_sl q.2 | (have w1 := q.2; omega)⟩)) (by rw [lastOf_s, ct_b (mr_n hr550 c569)]; exact htd) (by first | exact Nat.succ_le_of_lt hcs.1 | (have w1 := hcs.1; omega)) hP hD hS (lv_sub hl [4, 5, 6, 7, 8, 9, 10] rfl)
                            · have b575 : kb 0 bq548 0 := kb_eq c569 kc_0
                              refine lv_lload hx hb dX12_tells_308 (lv_at hl 2 rfl) ?_
                              refine lv_lconst (v := 0) hx hb dX12_tells_310 (by decide) ?_
                              refine W.lcmp hx hb dX12_tells_311 ?_
                              refine lv_topi (fun t576 et576 => ?_)
                              refine lv_if_ge (tgt := 319) hx hb dX12_tells_312 (by decide) (fun c577 => ?_) (fun c577 => ?_)
                              · have h578 := klc_ge (et576 ▸ c577)
                                have b579 : kbl 0 v542 9223372036854775807 := klr_le2 h578 kcl_0 (kbl_any v542)
                                refine lv_lload hx hb dX12_tells_319 (lv_at hl 2 rfl) ?_
                                refine lv_iload hx hb dX12_tells_321 (lv_at hl 9 rfl) ?_
                                refine lv_i2l hx hb dX12_tells_323 rfl ?_
                                refine lv_topl (fun t580 et580 => ?_)
                                have b581 : kbl 0 t580 20 := kbl_eq et580 (kbl_i2l bhi)
                                refine W.lcmp hx hb dX12_tells_324 ?_
                                refine lv_topi (fun t582 et582 => ?_)
                                refine lv_if_le (tgt := 334) hx hb dX12_tells_325 (by decide) (fun c583 => ?_) (fun c583 => ?_)
                                · have h584 := klc_le (et582 ▸ c583)
                                  have b585 : kbl 0 v542 20 := klr_le1 h584 b579 b581
                                  refine lv_lload hx hb dX12_tells_334 (lv_at hl 2 rfl) ?_
                                  refine lv_lstore (lv' := [(6, .long v542), (12, .int 1), (11, .int bq548), (9, .long v542), (8, .int 3), (0, .ref o), (1, .int hd), (2, .int bd), (3, .int pt), (4, .int hi), (5, .int wo)]) hx hb dX12_tells_336 hl (by decide) rfl (fun ls hl => ?_)
                                  refine lv_aload_n hx hb dX12_tells_338 rfl (lv_at hl 5 rfl) ?_
                                  refine lv_dup hx hb dX12_tells_339 rfl ?_
                                  refine va_get (D := D) (ci := 12) (v := .int (u554 22)) (C := RX12) (T := TX12) (N := 48) hx hb hg inC12 hown hK hP 0 rfl rfl 22 (by decide) (hg _ wt5_182) (fun _ h9 => h9) rfl dX12_tells_340 ?_
                                  refine k_top (z := gv557) egv557.symm ?_
                                  refine lv_iconst (v := 1) hx hb dX12_tells_343 (by decide) ?_
                                  refine lv_iadd hx hb dX12_tells_344 ?_
                                  refine lv_topi (fun t586 et586 => ?_)
                                  have b587 : kb 1 t586 2802 := kb_eq et586 (kb_add b559 kc_1 (by decide) (by decide))
                                  have qt586 : t586.toInt = gv557.toInt + 1 := by rw [et586]; exact kt_addc b559 kc_1 (by decide) (by decide)
                                  have hg588 : t586.toInt = 400 * (t : Int) + ((jj + 1 : Nat) : Int) := by first | exact kn7_go qt586 hg558 | (rw [qt586, hg558]; omega)
                                  refine va_put (D := D) (ci := 12) (v := .int t586) (ty := .int) (C := RX12) (T := TX12) (N := 48) hx hb hg inC12 tyX12 tyX12_ok nmX12 hown hK hP hD hS 0 rfl rfl 22 (by decide) (hg _ wt5_182) (fun _ h9 => h9) rfl (by decide +kernel) rfl rfl (Nat.le_of_ble_eq_true rfl) dX12_tells_345 (fun H locs hP hD hS => ?_)
                                  have hP : va_P D vwCl (mW K o r (upd u554 22 t586) a_37 g) H := hP
                                  have hD : va_D A (mW K o r (upd u554 22 t586) a_37 g) := hD
                                  refine k_gen (P := fun z => va_P D vwCl (mW K o r z a_37 g) H ∧ va_D A (mW K o r z a_37 g) ∧ (mI z a_37) ∧ (mE (XR []) f a z a_37) ∧ (mZ [22, 23, 24, 25] [26] f a z a_37) ∧ (eS z a_37 t false)) (upd u554 22 t586) ⟨hP, hD, (mI_f hI (fI_st hI.1 22 (kb_any _) (by decide) (by decide))), (mE_f hE (by decide)), (mZ_f hZ rfl), (eS_f hk0 (by decide) (by decide))⟩ (fun f_589 ef_589 hq => ?_)
                                  obtain ⟨hP, hD, hI, hE, hZ, hk0⟩ := hq
                                  refine lv_goto (tgt := 198) hx hb dX12_tells_348 (by decide) ?_
                                  exact ihlp53 (jj + 1) (cc + 1) f_589 _ _ _ v542 (by first | exact kn7_ml hmlp53 | (have w1 := hmlp53; omega)) hI hE hZ hk0 b585 (by rw [(show f_589 22 = t586 from kn7_u1 ef_589 rfl)]; exact hg588) (hnx.elim (fun q => Or.inl ⟨q.1, q.2.2.symm⟩) (fun q => Or.inr ⟨q.1, by first | exact kn7_sl q.2 | (have w1 := q.2; omega)⟩)) (by rw [lastOf_s, ct_y (hhk.trans (by rw [← c561]; decide +kernel)) (by rw [hv3]; rfl) (mr_s hr550 c569)]; show (v542 : Int64).toInt = max 0 (min hi.toInt (v542.toInt)); have w0 := bhi.1; have k0 : (0 : Int64).toInt = 0 := (by decide +kernel); have k1 : (1 : Int64).toInt = 1 := (by decide +kernel); have k9t580 : t580.toInt = hi.toInt := (congrArg Int64.toInt et580).trans (kt_i2l _); omega) (by first | exact Nat.succ_le_of_lt hcs.1 | (have w1 := hcs.1; omega)) hP hD hS (lv_sub hl [0, 5, 6, 7, 8, 9, 10] rfl)
                                · have h590 := klc_nle (et582 ▸ c583)
                                  have b591 : kbl 1 v542 9223372036854775807 := klr_lt2 h590 b581 b579 (by decide)
                                  refine lv_iload hx hb dX12_tells_328 (lv_at hl 9 rfl) ?_
                                  refine lv_i2l hx hb dX12_tells_330 rfl ?_
                                  refine lv_topl (fun t592 et592 => ?_)
                                  have b593 : kbl 0 t592 20 := kbl_eq et592 (kbl_i2l bhi)
                                  refine lv_goto (tgt := 336) hx hb dX12_tells_331 (by decide) ?_
                                  refine lv_lstore (lv' := [(6, .long t592), (12, .int 1), (11, .int bq548), (9, .long v542), (8, .int 3), (0, .ref o), (1, .int hd), (2, .int bd), (3, .int pt), (4, .int hi), (5, .int wo)]) hx hb dX12_tells_336 hl (by decide) rfl (fun ls hl => ?_)
                                  refine lv_aload_n hx hb dX12_tells_338 rfl (lv_at hl 5 rfl) ?_
                                  refine lv_dup hx hb dX12_tells_339 rfl ?_
                                  refine va_get (D := D) (ci := 12) (v := .int (u554 22)) (C := RX12) (T := TX12) (N := 48) hx hb hg inC12 hown hK hP 0 rfl rfl 22 (by decide) (hg _ wt5_182) (fun _ h9 => h9) rfl dX12_tells_340 ?_
                                  refine k_top (z := gv557) egv557.symm ?_
                                  refine lv_iconst (v := 1) hx hb dX12_tells_343 (by decide) ?_
                                  refine lv_iadd hx hb dX12_tells_344 ?_
                                  refine lv_topi (fun t594 et594 => ?_)
                                  have b595 : kb 1 t594 2802 := kb_eq et594 (kb_add b559 kc_1 (by decide) (by decide))
                                  have qt594 : t594.toInt = gv557.toInt + 1 := by rw [et594]; exact kt_addc b559 kc_1 (by decide) (by decide)
                                  have hg596 : t594.toInt = 400 * (t : Int) + ((jj + 1 : Nat) : Int) := by first | exact kn7_go qt594 hg558 | (rw [qt594, hg558]; omega)
                                  refine va_put (D := D) (ci := 12) (v := .int t594) (ty := .int) (C := RX12) (T := TX12) (N := 48) hx hb hg inC12 tyX12 tyX12_ok nmX12 hown hK hP hD hS 0 rfl rfl 22 (by decide) (hg _ wt5_182) (fun _ h9 => h9) rfl (by decide +kernel) rfl rfl (Nat.le_of_ble_eq_true rfl) dX12_tells_345 (fun H locs hP hD hS => ?_)
                                  have hP : va_P D vwCl (mW K o r (upd u554 22 t594) a_37 g) H := hP
                                  have hD : va_D A (mW K o r (upd u554 22 t594) a_37 g) := hD
                                  refine k_gen (P := fun z => va_P D vwCl (mW K o r z a_37 g) H ∧ va_D A (mW K o r z a_37 g) ∧ (mI z a_37) ∧ (mE (XR []) f a z a_37) ∧ (mZ [22, 23, 24, 25] [26] f a z a_37) ∧ (eS z a_37 t false)) (upd u554 22 t594) ⟨hP, hD, (mI_f hI (fI_st hI.1 22 (kb_any _) (by decide) (by decide))), (mE_f hE (by decide)), (mZ_f hZ rfl), (eS_f hk0 (by decide) (by decide))⟩ (fun f_597 ef_597 hq => ?_)
                                  obtain ⟨hP, hD, hI, hE, hZ, hk0⟩ := hq
                                  refine lv_goto (tgt := 198) hx hb dX12_tells_348 (by decide) ?_
                                  exact ihlp53 (jj + 1) (cc + 1) f_597 _ _ _ t592 (by first | exact kn7_ml hmlp53 | (have w1 := hmlp53; omega)) hI hE hZ hk0 b593 (by rw [(show f_597 22 = t594 from kn7_u1 ef_597 rfl)]; exact hg596) (hnx.elim (fun q => Or.inl ⟨q.1, q.2.2.symm⟩) (fun q => Or.inr ⟨q.1, by first | exact kn7_sl q.2 | (have w1 := q.2; omega)⟩)) (by rw [lastOf_s, ct_y (hhk.trans (by rw [← c561]; decide +kernel)) (by rw [hv3]; rfl) (mr_s hr550 c569)]; show (t592 : Int64).toInt = max 0 (min hi.toInt (v542.toInt)); have w0 := bhi.1; have k0 : (0 : Int64).toInt = 0 := (by decide +kernel); have k1 : (1 : Int64).toInt = 1 := (by decide +kernel); have k9 : t592.toInt = hi.toInt := (congrArg Int64.toInt et592).trans (kt_i2l _); have k9t580 : t580.toInt = hi.toInt := (congrArg Int64.toInt et580).trans (kt_i2l _); have k9t592 : t592.toInt = hi.toInt := (congrArg Int64.toInt et592).trans (kt_i2l _); omega) (by first | exact Nat.succ_le_of_lt hcs.1 | (have w1 := hcs.1; omega)) hP hD hS (lv_sub hl [0, 5, 6, 7, 8, 9, 10] rfl)
                              · have h598 := klc_nge (et576 ▸ c577)
                                have b599 : kbl (-9223372036854775808) v542 (-1) := klr_lt1 h598 (kbl_any v542) kcl_0 (by decide)
                                refine lv_lconst (v := 0) hx hb dX12_tells_315 (by decide) ?_
                                refine lv_goto (tgt := 336) hx hb dX12_tells_316 (by decide) ?_
                                refine lv_lstore (lv' := [(6, .long 0), (12, .int 1), (11, .int bq548), (9, .long v542), (8, .int 3), (0, .ref o), (1, .int hd), (2, .int bd), (3, .int pt), (4, .int hi), (5, .int wo)]) hx hb dX12_tells_336 hl (by decide) rfl (fun ls hl => ?_)
                                refine lv_aload_n hx hb dX12_tells_338 rfl (lv_at hl 5 rfl) ?_
                                refine lv_dup hx hb dX12_tells_339 rfl ?_
                                refine va_get (D := D) (ci := 12) (v := .int (u554 22)) (C := RX12) (T := TX12) (N := 48) hx hb hg inC12 hown hK hP 0 rfl rfl 22 (by decide) (hg _ wt5_182) (fun _ h9 => h9) rfl dX12_tells_340 ?_
                                refine k_top (z := gv557) egv557.symm ?_
                                refine lv_iconst (v := 1) hx hb dX12_tells_343 (by decide) ?_
                                refine lv_iadd hx hb dX12_tells_344 ?_
                                refine lv_topi (fun t600 et600 => ?_)
                                have b601 : kb 1 t600 2802 := kb_eq et600 (kb_add b559 kc_1 (by decide) (by decide))
                                have qt600 : t600.toInt = gv557.toInt + 1 := by rw [et600]; exact kt_addc b559 kc_1 (by decide) (by decide)
                                have hg602 : t600.toInt = 400 * (t : Int) + ((jj + 1 : Nat) : Int) := by first | exact kn7_go qt600 hg558 | (rw [qt600, hg558]; omega)
                                refine va_put (D := D) (ci := 12) (v := .int t600) (ty := .int) (C := RX12) (T := TX12) (N := 48) hx hb hg inC12 tyX12 tyX12_ok nmX12 hown hK hP hD hS 0 rfl rfl 22 (by decide) (hg _ wt5_182) (fun _ h9 => h9) rfl (by decide +kernel) rfl rfl (Nat.le_of_ble_eq_true rfl) dX12_tells_345 (fun H locs hP hD hS => ?_)
                                have hP : va_P D vwCl (mW K o r (upd u554 22 t600) a_37 g) H := hP
                                have hD : va_D A (mW K o r (upd u554 22 t600) a_37 g) := hD
                                refine k_gen (P := fun z => va_P D vwCl (mW K o r z a_37 g) H ∧ va_D A (mW K o r z a_37 g) ∧ (mI z a_37) ∧ (mE (XR []) f a z a_37) ∧ (mZ [22, 23, 24, 25] [26] f a z a_37) ∧ (eS z a_37 t false)) (upd u554 22 t600) ⟨hP, hD, (mI_f hI (fI_st hI.1 22 (kb_any _) (by decide) (by decide))), (mE_f hE (by decide)), (mZ_f hZ rfl), (eS_f hk0 (by decide) (by decide))⟩ (fun f_603 ef_603 hq => ?_)
                                obtain ⟨hP, hD, hI, hE, hZ, hk0⟩ := hq
                                refine lv_goto (tgt := 198) hx hb dX12_tells_348 (by decide) ?_
                                exact ihlp53 (jj + 1) (cc + 1) f_603 _ _ _ 0 (by first | exact kn7_ml hmlp53 | (have w1 := hmlp53; omega)) hI hE hZ hk0 (kbl_w kcl_0 (by decide) (by decide)) (by rw [(show f_603 22 = t600 from kn7_u1 ef_603 rfl)]; exact hg602) (hnx.elim (fun q => Or.inl ⟨q.1, q.2.2.symm⟩) (fun q => Or.inr ⟨q.1, by first | exact kn7_sl q.2 | (have w1 := q.2; omega)⟩)) (by rw [lastOf_s, ct_y (hhk.trans (by rw [← c561]; decide +kernel)) (by rw [hv3]; rfl) (mr_s hr550 c569)]; show (0 : Int64).toInt = max 0 (min hi.toInt (v542.toInt)); have w0 := bhi.1; have k0 : (0 : Int64).toInt = 0 := (by decide +kernel); have k1 : (1 : Int64).toInt = 1 := (by decide +kernel); omega) (by first | exact Nat.succ_le_of_lt hcs.1 | (have w1 := hcs.1; omega)) hP hD hS (lv_sub hl [0, 5, 6, 7, 8, 9, 10] rfl)
                    · exact kb_nsame c560 kc_0 kc_0
                  · exact kb_dj c540 kc_3 kc_4 (by decide)
            · have b604 : kb 0 gv56 2799 := kb_go hk0 (mC_lt hk0 (ne_0 (tq_y hp2 (x := 4) (y := 2007) (by decide +kernel) (by decide +kernel) h1) (by decide +kernel))) hg57
              have hhk : (DD (a 2 106).toInt.toNat).2.2.1 cc = kHd 3 := hhd.trans (h1.trans (by decide +kernel))
              have hv1 : (DD (a 2 106).toInt.toNat).2.2.2.2.1 cc = e1 := hb1
              rcases hif with ⟨h2, h3⟩ | ⟨h2, hj, hv3⟩
              · refine lv_aload_n hx hb dX12_tells_198 rfl (lv_at hl 1 rfl) ?_
                refine va_get (D := D) (ci := 12) (v := .int (F52 22)) (C := RX12) (T := TX12) (N := 48) hx hb hg inC12 hown hK hP 0 rfl rfl 22 (by decide) (hg _ wt5_182) (fun _ h9 => h9) rfl dX12_tells_199 ?_
                refine k_top (z := gv56) egv56.symm ?_
                refine lv_aload_n hx hb dX12_tells_202 rfl (lv_at hl 1 rfl) ?_
                refine va_get (D := D) (ci := 12) (v := .int (F52 23)) (C := RX12) (T := TX12) (N := 48) hx hb hg inC12 hown hK hP 0 rfl rfl 23 (by decide) (hg _ wt5_183) (fun _ h9 => h9) rfl dX12_tells_203 ?_
                refine lv_topi (fun t605 et605 => ?_)
                refine lv_icmp_ge (tgt := 351) hx hb dX12_tells_206 (by decide) (fun c606 => ?_) (fun c606 => ?_)
                · exact absurd (kc_le c606) (by have w1 := congrArg Int32.toInt et605.symm; have w2 := hk0.2.1; have w3 := hg57; have w4 := mC_lS hk0 (ne_0 (tq_y hp2 (x := 4) (y := 2007) (by decide +kernel) (by decide +kernel) h1) (by decide +kernel)); omega)
                · have h607 := (kc_nle c606)
                  have b608 : kb 1 t605 2147483647 := kr_lt2 h607 b604 (kb_any t605) (by decide)
                  refine lv_aload_n hx hb dX12_tells_209 rfl (lv_at hl 1 rfl) ?_
                  refine lv_aload_n hx hb dX12_tells_210 rfl (lv_at hl 1 rfl) ?_
                  refine va_get (D := D) (ci := 12) (v := .int (F52 22)) (C := RX12) (T := TX12) (N := 48) hx hb hg inC12 hown hK hP 0 rfl rfl 22 (by decide) (hg _ wt5_182) (fun _ h9 => h9) rfl dX12_tells_211 ?_
                  refine k_top (z := gv56) egv56.symm ?_
                  refine kI.callV (As := [.int gv56]) (rest := []) ⟨hx, hb, hml, hown, hg⟩ (m_codeAt l o r F52 a_37 g hI gv56  t (i) false hk0 hg57) (cwV 1 hg (kgV wt7_47 wt7_49 wp5_8 wt1_14 wt7_50) rfl rfl rfl (by decide +kernel) ⟨by decide, by decide⟩) hK hP hD hS hA mIs [] rfl (wr := []) rfl rfl rfl (fun i h => by cases h) 0 12 rfl rfl rfl hl.1 rfl (Nat.le_of_ble_eq_true rfl) dX12_tells_214 ⟨Nat.le_refl _, Nat.le_refl _⟩ (fun v610 u611 H locs hw609 hP hD hS => ?_)
                  have hP : va_P D vwCl (mW K o r F52 a_37 g) H := hP
                  have hD : va_D A (mW K o r F52 a_37 g) := hD
                  refine k_top (z := 4) (hw609.2.trans (tq_y hp2 (x := 4) (y := 2007) (by decide +kernel) (by decide +kernel) h1)) ?_
                  refine lv_istore (lv' := [(8, .int 4), (6, .long y51), (0, .ref o), (1, .int hd), (2, .int bd), (3, .int pt), (4, .int hi), (5, .int wo)]) hx hb dX12_tells_217 hl (by decide) rfl (fun ls hl => ?_)
                  refine lv_aload_n hx hb dX12_tells_219 rfl (lv_at hl 2 rfl) ?_
                  refine lv_iconst (v := 0) hx hb dX12_tells_220 (by decide) ?_
                  refine va_put (D := D) (ci := 12) (v := .int 0) (ty := .boolean) (C := RX12) (T := TX12) (N := 48) hx hb hg inC12 tyX12 tyX12_ok nmX12 hown hK hP hD hS 0 rfl rfl 24 (by decide) (hg _ wt5_184) (fun _ h9 => h9) rfl (by decide +kernel) rfl rfl (Nat.le_of_ble_eq_true rfl) dX12_tells_221 (fun H locs hP hD hS => ?_)
                  have hP : va_P D vwCl (mW K o r (upd F52 24 0) a_37 g) H := hP
                  have hD : va_D A (mW K o r (upd F52 24 0) a_37 g) := hD
                  refine k_gen (P := fun z => va_P D vwCl (mW K o r z a_37 g) H ∧ va_D A (mW K o r z a_37 g) ∧ (mI z a_37) ∧ (mE (XR []) f a z a_37) ∧ (mZ [22, 23, 24, 25] [26] f a z a_37) ∧ (eS z a_37 t false)) (upd F52 24 0) ⟨hP, hD, (mI_f hI (fI_st hI.1 24 kc_0 (by decide) (by decide))), (mE_f hE (by decide)), (mZ_f hZ rfl), (eS_f hk0 (by decide) (by decide))⟩ (fun f_612 ef_612 hq => ?_)
                  obtain ⟨hP, hD, hI, hE, hZ, hk0⟩ := hq
                  refine lv_aload_n hx hb dX12_tells_224 rfl (lv_at hl 2 rfl) ?_
                  refine lv_dup hx hb dX12_tells_225 rfl ?_
                  refine va_get (D := D) (ci := 12) (v := .int (f_612 22)) (C := RX12) (T := TX12) (N := 48) hx hb hg inC12 hown hK hP 0 rfl rfl 22 (by decide) (hg _ wt5_182) (fun _ h9 => h9) rfl dX12_tells_226 ?_
                  refine k_top (z := gv56) ((show f_612 22 = F52 22 from kn7_u1 ef_612 rfl).trans egv56.symm) ?_
                  refine lv_iconst (v := 1) hx hb dX12_tells_229 (by decide) ?_
                  refine lv_iadd hx hb dX12_tells_230 ?_
                  refine lv_topi (fun t613 et613 => ?_)
                  have b614 : kb 1 t613 2800 := kb_eq et613 (kb_add b604 kc_1 (by decide) (by decide))
                  have qt613 : t613.toInt = gv56.toInt + 1 := by rw [et613]; exact kt_addc b604 kc_1 (by decide) (by decide)
                  have hg615 : t613.toInt = 400 * (t : Int) + ((i + 1 : Nat) : Int) := by first | exact kn7_go qt613 hg57 | (rw [qt613, hg57]; omega)
                  have b616 : kb 0 t613 2799 := kb_go hk0 (mC_lt hk0 (ne_0 (tq_y hp2 (x := 5) (y := 2003) (by decide +kernel) (by decide +kernel) h2) (by decide +kernel))) hg615
                  refine va_put (D := D) (ci := 12) (v := .int t613) (ty := .int) (C := RX12) (T := TX12) (N := 48) hx hb hg inC12 tyX12 tyX12_ok nmX12 hown hK hP hD hS 0 rfl rfl 22 (by decide) (hg _ wt5_182) (fun _ h9 => h9) rfl (by decide +kernel) rfl rfl (Nat.le_of_ble_eq_true rfl) dX12_tells_231 (fun H locs hP hD hS => ?_)
                  have hP : va_P D vwCl (mW K o r (upd f_612 22 t613) a_37 g) H := hP
                  have hD : va_D A (mW K o r (upd f_612 22 t613) a_37 g) := hD
                  refine k_gen (P := fun z => va_P D vwCl (mW K o r z a_37 g) H ∧ va_D A (mW K o r z a_37 g) ∧ (mI z a_37) ∧ (mE (XR []) f a z a_37) ∧ (mZ [22, 23, 24, 25] [26] f a z a_37) ∧ (eS z a_37 t false)) (upd f_612 22 t613) ⟨hP, hD, (mI_f hI (fI_st hI.1 22 (kb_any _) (by decide) (by decide))), (mE_f hE (by decide)), (mZ_f hZ rfl), (eS_f hk0 (by decide) (by decide))⟩ (fun f_617 ef_617 hq => ?_)
                  obtain ⟨hP, hD, hI, hE, hZ, hk0⟩ := hq
                  refine lv_iload hx hb dX12_tells_234 (lv_at hl 0 rfl) ?_
                  refine lv_iconst (v := 4) hx hb dX12_tells_236 (by decide) ?_
                  refine lv_icmp_ne (tgt := 244) hx hb dX12_tells_237 (by decide) (fun c618 => ?_) (fun c618 => ?_)
                  · exact kb_nsame c618 kc_4 kc_4
                  · refine lv_lconst (v := 1) hx hb dX12_tells_240 (by decide) ?_
                    refine lv_goto (tgt := 249) hx hb dX12_tells_241 (by decide) ?_
                    refine lv_lstore (lv' := [(9, .long 1), (8, .int 4), (6, .long y51), (0, .ref o), (1, .int hd), (2, .int bd), (3, .int pt), (4, .int hi), (5, .int wo)]) hx hb dX12_tells_249 hl (by decide) rfl (fun ls hl => ?_)
                    refine lv_aload_n hx hb dX12_tells_251 rfl (lv_at hl 3 rfl) ?_
                    refine va_get (D := D) (ci := 12) (v := .int (f_617 24)) (C := RX12) (T := TX12) (N := 48) hx hb hg inC12 hown hK hP 0 rfl rfl 24 (by decide) (hg _ wt5_184) (fun _ h9 => h9) rfl dX12_tells_252 ?_
                    refine k_top (z := 0) ((show f_617 24 = f_612 24 from kn7_u1 ef_617 rfl).trans (show f_612 24 = 0 from kn7_u1 ef_612 rfl)) ?_
                    refine lv_istore (lv' := [(11, .int 0), (9, .long 1), (8, .int 4), (6, .long y51), (0, .ref o), (1, .int hd), (2, .int bd), (3, .int pt), (4, .int hi), (5, .int wo)]) hx hb dX12_tells_255 hl (by decide) rfl (fun ls hl => ?_)
                    refine lv_aload_n hx hb dX12_tells_257 rfl (lv_at hl 4 rfl) ?_
                    refine lv_iconst (v := 0) hx hb dX12_tells_258 (by decide) ?_
                    refine va_put (D := D) (ci := 12) (v := .int 0) (ty := .boolean) (C := RX12) (T := TX12) (N := 48) hx hb hg inC12 tyX12 tyX12_ok nmX12 hown hK hP hD hS 0 rfl rfl 24 (by decide) (hg _ wt5_184) (fun _ h9 => h9) rfl (by decide +kernel) rfl rfl (Nat.le_of_ble_eq_true rfl) dX12_tells_259 (fun H locs hP hD hS => ?_)
                    have hP : va_P D vwCl (mW K o r (upd f_617 24 0) a_37 g) H := hP
                    have hD : va_D A (mW K o r (upd f_617 24 0) a_37 g) := hD
                    refine k_gen (P := fun z => va_P D vwCl (mW K o r z a_37 g) H ∧ va_D A (mW K o r z a_37 g) ∧ (mI z a_37) ∧ (mE (XR []) f a z a_37) ∧ (mZ [22, 23, 24, 25] [26] f a z a_37) ∧ (eS z a_37 t false)) (upd f_617 24 0) ⟨hP, hD, (mI_f hI (fI_st hI.1 24 kc_0 (by decide) (by decide))), (mE_f hE (by decide)), (mZ_f hZ rfl), (eS_f hk0 (by decide) (by decide))⟩ (fun f_619 ef_619 hq => ?_)
                    obtain ⟨hP, hD, hI, hE, hZ, hk0⟩ := hq
                    refine lv_aload_n hx hb dX12_tells_262 rfl (lv_at hl 4 rfl) ?_
                    refine lv_iconst (v := 5) hx hb dX12_tells_263 (by decide) ?_
                    refine kI.callV (As := [.int 5]) (rest := []) ⟨hx, hb, hml, hown, hg⟩ (m_passes0 l o r f_619 a_37 g hI 5 (kb_w kc_5 (by decide) (by decide)) t (i + 1) false hk0 (by rw [((show f_619 22 = f_617 22 from kn7_u1 ef_619 rfl).trans (show f_617 22 = t613 from kn7_u1 ef_617 rfl))]; exact hg615)) (cwV 1 hg (kgV wt7_63 wt7_65 wp5_12 wt1_14 wt7_66) rfl rfl rfl (by decide +kernel) ⟨by decide, by decide⟩) hK hP hD hS hA mIs [] rfl (wr := []) rfl rfl rfl (fun i h => by cases h) 0 12 rfl rfl rfl hl.1 rfl (Nat.le_of_ble_eq_true rfl) dX12_tells_264 ⟨Nat.le_refl _, Nat.le_refl _⟩ (fun v621 u622 H locs hw620 hP hD hS => ?_)
                    have hP : va_P D vwCl (mW K o r u622 a_37 g) H := hP
                    have hD : va_D A (mW K o r u622 a_37 g) := hD
                    have hI : mI u622 a_37 := hw620.2.1
                    have eE623 : fE [22] f_619 u622 := hw620.2.2.1
                    have hE : mE (XR []) f a u622 a_37 := mE_fE hE eE623 (by decide)
                    have hZ : mZ [22, 23, 24, 25] [26] f a u622 a_37 := mZ_fE hZ (fE_w (by decide) eE623)
                    have hk0 : eS u622 a_37 t false := eS_fE eE623 hk0 (by decide) (by decide)
                    have hz624 := pass_y hw620.2.2.2 (tq_y hp2 (x := 5) (y := 2003) (by decide +kernel) (by decide +kernel) h2)
                    refine k_top (z := 1) hz624.1 ?_
                    obtain ⟨gv625, egv625⟩ : ∃ z : Int32, z = u622 22 := ⟨_, rfl⟩
                    have hg626 : gv625.toInt = 400 * (t : Int) + ((i + 1 + 1 : Nat) : Int) := by rw [egv625]; exact hz624.2
                    refine lv_if_eq (tgt := 278) hx hb dX12_tells_267 (by decide) (fun c627 => ?_) (fun c627 => ?_)
                    · exact kb_dj c627 kc_1 kc_0 (by decide)
                    · refine lv_aload_n hx hb dX12_tells_270 rfl (lv_at hl 4 rfl) ?_
                      refine lv_iconst (v := 1) hx hb dX12_tells_271 (by decide) ?_
                      refine kI.callV (As := [.int 1]) (rest := []) ⟨hx, hb, hml, hown, hg⟩ ((n_allTest 8) l o r u622 a_37 g hI 1 (kb_w kc_1 (by decide) (by decide)) t (i + 1 + 1) (jj) false T (lwW (a 2) bd pt) ((DD (a 2 106).toInt.toNat).2.2.2.2.2.2 cc) hk0 (by rw [egv625.symm]; exact hg626) hp2 (hp3 u622) h3) (cwV 1 hg (kgV wt7_80 wt7_82 wp5_15 wt1_14 wt7_83) rfl rfl rfl (by decide +kernel) ⟨by decide, by decide⟩) hK hP hD hS hA mIs [] rfl (wr := []) rfl rfl rfl (fun i h => by cases h) 0 12 rfl rfl rfl hl.1 rfl (Nat.le_of_ble_eq_true rfl) dX12_tells_272 ⟨Nat.le_refl _, Nat.le_refl _⟩ (fun v629 u630 H locs hw628 hP hD hS => ?_)
                      have hP : va_P D vwCl (mW K o r u630 a_37 g) H := hP
                      have hD : va_D A (mW K o r u630 a_37 g) := hD
                      have hI : mI u630 a_37 := hw628.2.1
                      have eE631 : fE [22, 24] u622 u630 := hw628.2.2.1
                      have hE : mE (XR []) f a u630 a_37 := mE_fE hE eE631 (by decide)
                      have hZ : mZ [22, 23, 24, 25] [26] f a u630 a_37 := mZ_fE hZ (fE_w (by decide) eE631)
                      have hk0 : eS u630 a_37 t false := eS_fE eE631 hk0 (by decide) (by decide)
                      obtain ⟨gv632, egv632⟩ : ∃ z : Int32, z = u630 22 := ⟨_, rfl⟩
                      have hg633 : gv632.toInt = 400 * (t : Int) + ((jj : Nat) : Int) := by rw [egv632]; exact hw628.2.2.2.1
                      have b634 : kb 0 gv632 2801 := kb_go1 hk0 (by have w1 := hk0.2.2.2.2; omega) hg633
                      obtain ⟨bq635, ebq635⟩ : ∃ z : Int32, z = u630 24 := ⟨_, rfl⟩
                      have b636 : kb 0 bq635 1 := kb_eq ebq635 (fI_at hI.1 24 (by decide) (by decide))
                      have hr637 : mTv 1 0 (((DD (a 2 106).toInt.toNat).2.2.2.2.2.2 cc) (lwW (a 2) bd pt)) bq635 v629 := by have w1 := hw628.2.2.2.2; rw [((eE623 24 (by decide)).trans (show f_619 24 = 0 from kn7_u1 ef_619 rfl)), ← ebq635] at w1; exact w1
                      refine lv_if_eq (tgt := 282) hx hb dX12_tells_275 (by decide) (fun c638 => ?_) (fun c638 => ?_)
                      · have b639 : kb 0 v629 0 := kb_eq c638 kc_0
                        refine lv_iconst (v := 0) hx hb dX12_tells_282 (by decide) ?_
                        refine lv_istore (lv' := [(12, .int 0), (11, .int 0), (9, .long 1), (8, .int 4), (6, .long y51), (0, .ref o), (1, .int hd), (2, .int bd), (3, .int pt), (4, .int hi), (5, .int wo)]) hx hb dX12_tells_283 hl (by decide) rfl (fun ls hl => ?_)
                        refine lv_iload hx hb dX12_tells_285 (lv_at hl 3 rfl) ?_
                        refine lv_iload_n hx hb dX12_tells_287 rfl (lv_at hl 6 rfl) ?_
                        refine lv_icmp_ne (tgt := 338) hx hb dX12_tells_288 (by decide) (fun c640 => ?_) (fun c640 => ?_)
                        · refine lv_aload_n hx hb dX12_tells_338 rfl (lv_at hl 5 rfl) ?_
                          refine lv_dup hx hb dX12_tells_339 rfl ?_
                          refine va_get (D := D) (ci := 12) (v := .int (u630 22)) (C := RX12) (T := TX12) (N := 48) hx hb hg inC12 hown hK hP 0 rfl rfl 22 (by decide) (hg _ wt5_182) (fun _ h9 => h9) rfl dX12_tells_340 ?_
                          refine k_top (z := gv632) egv632.symm ?_
                          refine lv_iconst (v := 1) hx hb dX12_tells_343 (by decide) ?_
                          refine lv_iadd hx hb dX12_tells_344 ?_
                          refine lv_topi (fun t641 et641 => ?_)
                          have b642 : kb 1 t641 2802 := kb_eq et641 (kb_add b634 kc_1 (by decide) (by decide))
                          have qt641 : t641.toInt = gv632.toInt + 1 := by rw [et641]; exact kt_addc b634 kc_1 (by decide) (by decide)
                          have hg643 : t641.toInt = 400 * (t : Int) + ((jj + 1 : Nat) : Int) := by first | exact kn7_go qt641 hg633 | (rw [qt641, hg633]; omega)
                          refine va_put (D := D) (ci := 12) (v := .int t641) (ty := .int) (C := RX12) (T := TX12) (N := 48) hx hb hg inC12 tyX12 tyX12_ok nmX12 hown hK hP hD hS 0 rfl rfl 22 (by decide) (hg _ wt5_182) (fun _ h9 => h9) rfl (by decide +kernel) rfl rfl (Nat.le_of_ble_eq_true rfl) dX12_tells_345 (fun H locs hP hD hS => ?_)
                          have hP : va_P D vwCl (mW K o r (upd u630 22 t641) a_37 g) H := hP
                          have hD : va_D A (mW K o r (upd u630 22 t641) a_37 g) := hD
                          refine k_gen (P := fun z => va_P D vwCl (mW K o r z a_37 g) H ∧ va_D A (mW K o r z a_37 g) ∧ (mI z a_37) ∧ (mE (XR []) f a z a_37) ∧ (mZ [22, 23, 24, 25] [26] f a z a_37) ∧ (eS z a_37 t false)) (upd u630 22 t641) ⟨hP, hD, (mI_f hI (fI_st hI.1 22 (kb_any _) (by decide) (by decide))), (mE_f hE (by decide)), (mZ_f hZ rfl), (eS_f hk0 (by decide) (by decide))⟩ (fun f_644 ef_644 hq => ?_)
                          obtain ⟨hP, hD, hI, hE, hZ, hk0⟩ := hq
                          refine lv_goto (tgt := 198) hx hb dX12_tells_348 (by decide) ?_
                          exact ihlp53 (jj + 1) (cc + 1) f_644 _ _ _ y51 (by first | exact kn7_ml hmlp53 | (have w1 := hmlp53; omega)) hI hE hZ hk0 b55 (by rw [(show f_644 22 = t641 from kn7_u1 ef_644 rfl)]; exact hg643) (hnx.elim (fun q => Or.inl ⟨q.1, q.2.2.symm⟩) (fun q => Or.inr ⟨q.1, by first | exact kn7_sl q.2 | (have w1 := q.2; omega)⟩)) (by rw [lastOf_s, ct_n (fun q => c640 (Int32.toInt_inj.mp (by first | exact (kHd_j (hhk.symm.trans q) bhd).trans (by decide +kernel) | (have w1 := kHd_j (hhk.symm.trans q) bhd; have w2 : (4 : Int32).toInt = 4 := (by decide +kernel); omega))))]; exact htd) (by first | exact Nat.succ_le_of_lt hcs.1 | (have w1 := hcs.1; omega)) hP hD hS (lv_sub hl [4, 5, 6, 7, 8, 9, 10] rfl)
                        · have b645 : kb 4 hd 4 := kb_eq c640.symm kc_4
                          refine lv_iload hx hb dX12_tells_291 (lv_at hl 0 rfl) ?_
                          refine lv_if_eq (tgt := 338) hx hb dX12_tells_293 (by decide) (fun c646 => ?_) (fun c646 => ?_)
                          · refine lv_aload_n hx hb dX12_tells_338 rfl (lv_at hl 5 rfl) ?_
                            refine lv_dup hx hb dX12_tells_339 rfl ?_
                            refine va_get (D := D) (ci := 12) (v := .int (u630 22)) (C := RX12) (T := TX12) (N := 48) hx hb hg inC12 hown hK hP 0 rfl rfl 22 (by decide) (hg _ wt5_182) (fun _ h9 => h9) rfl dX12_tells_340 ?_
                            refine k_top (z := gv632) egv632.symm ?_
                            refine lv_iconst (v := 1) hx hb dX12_tells_343 (by decide) ?_
                            refine lv_iadd hx hb dX12_tells_344 ?_
                            refine lv_topi (fun t647 et647 => ?_)
                            have b648 : kb 1 t647 2802 := kb_eq et647 (kb_add b634 kc_1 (by decide) (by decide))
                            have qt647 : t647.toInt = gv632.toInt + 1 := by rw [et647]; exact kt_addc b634 kc_1 (by decide) (by decide)
                            have hg649 : t647.toInt = 400 * (t : Int) + ((jj + 1 : Nat) : Int) := by first | exact kn7_go qt647 hg633 | (rw [qt647, hg633]; omega)
                            refine va_put (D := D) (ci := 12) (v := .int t647) (ty := .int) (C := RX12) (T := TX12) (N := 48) hx hb hg inC12 tyX12 tyX12_ok nmX12 hown hK hP hD hS 0 rfl rfl 22 (by decide) (hg _ wt5_182) (fun _ h9 => h9) rfl (by decide +kernel) rfl rfl (Nat.le_of_ble_eq_true rfl) dX12_tells_345 (fun H locs hP hD hS => ?_)
                            have hP : va_P D vwCl (mW K o r (upd u630 22 t647) a_37 g) H := hP
                            have hD : va_D A (mW K o r (upd u630 22 t647) a_37 g) := hD
                            refine k_gen (P := fun z => va_P D vwCl (mW K o r z a_37 g) H ∧ va_D A (mW K o r z a_37 g) ∧ (mI z a_37) ∧ (mE (XR []) f a z a_37) ∧ (mZ [22, 23, 24, 25] [26] f a z a_37) ∧ (eS z a_37 t false)) (upd u630 22 t647) ⟨hP, hD, (mI_f hI (fI_st hI.1 22 (kb_any _) (by decide) (by decide))), (mE_f hE (by decide)), (mZ_f hZ rfl), (eS_f hk0 (by decide) (by decide))⟩ (fun f_650 ef_650 hq => ?_)
                            obtain ⟨hP, hD, hI, hE, hZ, hk0⟩ := hq
                            refine lv_goto (tgt := 198) hx hb dX12_tells_348 (by decide) ?_
                            exact ihlp53 (jj + 1) (cc + 1) f_650 _ _ _ y51 (by first | exact kn7_ml hmlp53 | (have w1 := hmlp53; omega)) hI hE hZ hk0 b55 (by rw [(show f_650 22 = t647 from kn7_u1 ef_650 rfl)]; exact hg649) (hnx.elim (fun q => Or.inl ⟨q.1, q.2.2.symm⟩) (fun q => Or.inr ⟨q.1, by first | exact kn7_sl q.2 | (have w1 := q.2; omega)⟩)) (by rw [lastOf_s, ct_t (mt_0 hr637 c638)]; exact htd) (by first | exact Nat.succ_le_of_lt hcs.1 | (have w1 := hcs.1; omega)) hP hD hS (lv_sub hl [4, 5, 6, 7, 8, 9, 10] rfl)
                          · exact kb_nsame c646 kc_0 kc_0
                      · have b651 : kb 1 v629 1 := kr_nel c638 hw628.1 kc_0 (by decide)
                        refine lv_iconst (v := 1) hx hb dX12_tells_278 (by decide) ?_
                        refine lv_goto (tgt := 283) hx hb dX12_tells_279 (by decide) ?_
                        refine lv_istore (lv' := [(12, .int 1), (11, .int 0), (9, .long 1), (8, .int 4), (6, .long y51), (0, .ref o), (1, .int hd), (2, .int bd), (3, .int pt), (4, .int hi), (5, .int wo)]) hx hb dX12_tells_283 hl (by decide) rfl (fun ls hl => ?_)
                        refine lv_iload hx hb dX12_tells_285 (lv_at hl 3 rfl) ?_
                        refine lv_iload_n hx hb dX12_tells_287 rfl (lv_at hl 6 rfl) ?_
                        refine lv_icmp_ne (tgt := 338) hx hb dX12_tells_288 (by decide) (fun c652 => ?_) (fun c652 => ?_)
                        · refine lv_aload_n hx hb dX12_tells_338 rfl (lv_at hl 5 rfl) ?_
                          refine lv_dup hx hb dX12_tells_339 rfl ?_
                          refine va_get (D := D) (ci := 12) (v := .int (u630 22)) (C := RX12) (T := TX12) (N := 48) hx hb hg inC12 hown hK hP 0 rfl rfl 22 (by decide) (hg _ wt5_182) (fun _ h9 => h9) rfl dX12_tells_340 ?_
                          refine k_top (z := gv632) egv632.symm ?_
                          refine lv_iconst (v := 1) hx hb dX12_tells_343 (by decide) ?_
                          refine lv_iadd hx hb dX12_tells_344 ?_
                          refine lv_topi (fun t653 et653 => ?_)
                          have b654 : kb 1 t653 2802 := kb_eq et653 (kb_add b634 kc_1 (by decide) (by decide))
                          have qt653 : t653.toInt = gv632.toInt + 1 := by rw [et653]; exact kt_addc b634 kc_1 (by decide) (by decide)
                          have hg655 : t653.toInt = 400 * (t : Int) + ((jj + 1 : Nat) : Int) := by first | exact kn7_go qt653 hg633 | (rw [qt653, hg633]; omega)
                          refine va_put (D := D) (ci := 12) (v := .int t653) (ty := .int) (C := RX12) (T := TX12) (N := 48) hx hb hg inC12 tyX12 tyX12_ok nmX12 hown hK hP hD hS 0 rfl rfl 22 (by decide) (hg _ wt5_182) (fun _ h9 => h9) rfl (by decide +kernel) rfl rfl (Nat.le_of_ble_eq_true rfl) dX12_tells_345 (fun H locs hP hD hS => ?_)
                          have hP : va_P D vwCl (mW K o r (upd u630 22 t653) a_37 g) H := hP
                          have hD : va_D A (mW K o r (upd u630 22 t653) a_37 g) := hD
                          refine k_gen (P := fun z => va_P D vwCl (mW K o r z a_37 g) H ∧ va_D A (mW K o r z a_37 g) ∧ (mI z a_37) ∧ (mE (XR []) f a z a_37) ∧ (mZ [22, 23, 24, 25] [26] f a z a_37) ∧ (eS z a_37 t false)) (upd u630 22 t653) ⟨hP, hD, (mI_f hI (fI_st hI.1 22 (kb_any _) (by decide) (by decide))), (mE_f hE (by decide)), (mZ_f hZ rfl), (eS_f hk0 (by decide) (by decide))⟩ (fun f_656 ef_656 hq => ?_)
                          obtain ⟨hP, hD, hI, hE, hZ, hk0⟩ := hq
                          refine lv_goto (tgt := 198) hx hb dX12_tells_348 (by decide) ?_
                          exact ihlp53 (jj + 1) (cc + 1) f_656 _ _ _ y51 (by first | exact kn7_ml hmlp53 | (have w1 := hmlp53; omega)) hI hE hZ hk0 b55 (by rw [(show f_656 22 = t653 from kn7_u1 ef_656 rfl)]; exact hg655) (hnx.elim (fun q => Or.inl ⟨q.1, q.2.2.symm⟩) (fun q => Or.inr ⟨q.1, by first | exact kn7_sl q.2 | (have w1 := q.2; omega)⟩)) (by rw [lastOf_s, ct_n (fun q => c652 (Int32.toInt_inj.mp (by first | exact (kHd_j (hhk.symm.trans q) bhd).trans (by decide +kernel) | (have w1 := kHd_j (hhk.symm.trans q) bhd; have w2 : (4 : Int32).toInt = 4 := (by decide +kernel); omega))))]; exact htd) (by first | exact Nat.succ_le_of_lt hcs.1 | (have w1 := hcs.1; omega)) hP hD hS (lv_sub hl [4, 5, 6, 7, 8, 9, 10] rfl)
                        · have b657 : kb 4 hd 4 := kb_eq c652.symm kc_4
                          refine lv_iload hx hb dX12_tells_291 (lv_at hl 0 rfl) ?_
                          refine lv_if_eq (tgt := 338) hx hb dX12_tells_293 (by decide) (fun c658 => ?_) (fun c658 => ?_)
                          · exact kb_dj c658 kc_1 kc_0 (by decide)
                          · refine lv_aload_n hx hb dX12_tells_296 rfl (lv_at hl 5 rfl) ?_
                            refine va_get (D := D) (ci := 12) (v := .int (u630 24)) (C := RX12) (T := TX12) (N := 48) hx hb hg inC12 hown hK hP 0 rfl rfl 24 (by decide) (hg _ wt5_184) (fun _ h9 => h9) rfl dX12_tells_297 ?_
                            refine k_top (z := bq635) ebq635.symm ?_
                            refine lv_if_ne (tgt := 338) hx hb dX12_tells_300 (by decide) (fun c659 => ?_) (fun c659 => ?_)
                            · have b660 : kb 1 bq635 1 := kr_nel c659 b636 kc_0 (by decide)
                              refine lv_aload_n hx hb dX12_tells_338 rfl (lv_at hl 5 rfl) ?_
                              refine lv_dup hx hb dX12_tells_339 rfl ?_
                              refine va_get (D := D) (ci := 12) (v := .int (u630 22)) (C := RX12) (T := TX12) (N := 48) hx hb hg inC12 hown hK hP 0 rfl rfl 22 (by decide) (hg _ wt5_182) (fun _ h9 => h9) rfl dX12_tells_340 ?_
                              refine k_top (z := gv632) egv632.symm ?_
                              refine lv_iconst (v := 1) hx hb dX12_tells_343 (by decide) ?_
                              refine lv_iadd hx hb dX12_tells_344 ?_
                              refine lv_topi (fun t661 et661 => ?_)
                              have b662 : kb 1 t661 2802 := kb_eq et661 (kb_add b634 kc_1 (by decide) (by decide))
                              have qt661 : t661.toInt = gv632.toInt + 1 := by rw [et661]; exact kt_addc b634 kc_1 (by decide) (by decide)
                              have hg663 : t661.toInt = 400 * (t : Int) + ((jj + 1 : Nat) : Int) := by first | exact kn7_go qt661 hg633 | (rw [qt661, hg633]; omega)
                              refine va_put (D := D) (ci := 12) (v := .int t661) (ty := .int) (C := RX12) (T := TX12) (N := 48) hx hb hg inC12 tyX12 tyX12_ok nmX12 hown hK hP hD hS 0 rfl rfl 22 (by decide) (hg _ wt5_182) (fun _ h9 => h9) rfl (by decide +kernel) rfl rfl (Nat.le_of_ble_eq_true rfl) dX12_tells_345 (fun H locs hP hD hS => ?_)
                              have hP : va_P D vwCl (mW K o r (upd u630 22 t661) a_37 g) H := hP
                              have hD : va_D A (mW K o r (upd u630 22 t661) a_37 g) := hD
                              refine k_gen (P := fun z => va_P D vwCl (mW K o r z a_37 g) H ∧ va_D A (mW K o r z a_37 g) ∧ (mI z a_37) ∧ (mE (XR []) f a z a_37) ∧ (mZ [22, 23, 24, 25] [26] f a z a_37) ∧ (eS z a_37 t false)) (upd u630 22 t661) ⟨hP, hD, (mI_f hI (fI_st hI.1 22 (kb_any _) (by decide) (by decide))), (mE_f hE (by decide)), (mZ_f hZ rfl), (eS_f hk0 (by decide) (by decide))⟩ (fun f_664 ef_664 hq => ?_)
                              obtain ⟨hP, hD, hI, hE, hZ, hk0⟩ := hq
                              refine lv_goto (tgt := 198) hx hb dX12_tells_348 (by decide) ?_
                              exact ihlp53 (jj + 1) (cc + 1) f_664 _ _ _ y51 (by first | exact kn7_ml hmlp53 | (have w1 := hmlp53; omega)) hI hE hZ hk0 b55 (by rw [(show f_664 22 = t661 from kn7_u1 ef_664 rfl)]; exact hg663) (hnx.elim (fun q => Or.inl ⟨q.1, q.2.2.symm⟩) (fun q => Or.inr ⟨q.1, by first | exact kn7_sl q.2 | (have w1 := q.2; omega)⟩)) (by rw [lastOf_s, ct_t (mt_n hr637 c659)]; exact htd) (by first | exact Nat.succ_le_of_lt hcs.1 | (have w1 := hcs.1; omega)) hP hD hS (lv_sub hl [4, 5, 6, 7, 8, 9, 10] rfl)
                            · have b665 : kb 0 bq635 0 := kb_eq c659 kc_0
                              refine lv_iload hx hb dX12_tells_303 (lv_at hl 1 rfl) ?_
                              refine lv_if_ne (tgt := 338) hx hb dX12_tells_305 (by decide) (fun c666 => ?_) (fun c666 => ?_)
                              · exact kb_nsame c666 kc_0 kc_0
                              · refine lv_lload hx hb dX12_tells_308 (lv_at hl 2 rfl) ?_
                                refine lv_lconst (v := 0) hx hb dX12_tells_310 (by decide) ?_
                                refine W.lcmp hx hb dX12_tells_311 ?_
                                refine lv_topi (fun t667 et667 => ?_)
                                refine lv_if_ge (tgt := 319) hx hb dX12_tells_312 (by decide) (fun c668 => ?_) (fun c668 => ?_)
                                · have h669 := klc_ge (et667 ▸ c668)
                                  refine lv_lload hx hb dX12_tells_319 (lv_at hl 2 rfl) ?_
                                  refine lv_iload hx hb dX12_tells_321 (lv_at hl 9 rfl) ?_
                                  refine lv_i2l hx hb dX12_tells_323 rfl ?_
                                  refine lv_topl (fun t670 et670 => ?_)
                                  have b671 : kbl 0 t670 20 := kbl_eq et670 (kbl_i2l bhi)
                                  refine W.lcmp hx hb dX12_tells_324 ?_
                                  refine lv_topi (fun t672 et672 => ?_)
                                  refine lv_if_le (tgt := 334) hx hb dX12_tells_325 (by decide) (fun c673 => ?_) (fun c673 => ?_)
                                  · have h674 := klc_le (et672 ▸ c673)
                                    have b675 : kbl 1 t670 20 := klr_le2 h674 kcl_1 b671
                                    refine lv_lload hx hb dX12_tells_334 (lv_at hl 2 rfl) ?_
                                    refine lv_lstore (lv' := [(6, .long 1), (12, .int 1), (11, .int 0), (9, .long 1), (8, .int 4), (0, .ref o), (1, .int hd), (2, .int bd), (3, .int pt), (4, .int hi), (5, .int wo)]) hx hb dX12_tells_336 hl (by decide) rfl (fun ls hl => ?_)
                                    refine lv_aload_n hx hb dX12_tells_338 rfl (lv_at hl 5 rfl) ?_
                                    refine lv_dup hx hb dX12_tells_339 rfl ?_
                                    refine va_get (D := D) (ci := 12) (v := .int (u630 22)) (C := RX12) (T := TX12) (N := 48) hx hb hg inC12 hown hK hP 0 rfl rfl 22 (by decide) (hg _ wt5_182) (fun _ h9 => h9) rfl dX12_tells_340 ?_
                                    refine k_top (z := gv632) egv632.symm ?_
                                    refine lv_iconst (v := 1) hx hb dX12_tells_343 (by decide) ?_
                                    refine lv_iadd hx hb dX12_tells_344 ?_
                                    refine lv_topi (fun t676 et676 => ?_)
                                    have b677 : kb 1 t676 2802 := kb_eq et676 (kb_add b634 kc_1 (by decide) (by decide))
                                    have qt676 : t676.toInt = gv632.toInt + 1 := by rw [et676]; exact kt_addc b634 kc_1 (by decide) (by decide)
                                    have hg678 : t676.toInt = 400 * (t : Int) + ((jj + 1 : Nat) : Int) := by first | exact kn7_go qt676 hg633 | (rw [qt676, hg633]; omega)
                                    refine va_put (D := D) (ci := 12) (v := .int t676) (ty := .int) (C := RX12) (T := TX12) (N := 48) hx hb hg inC12 tyX12 tyX12_ok nmX12 hown hK hP hD hS 0 rfl rfl 22 (by decide) (hg _ wt5_182) (fun _ h9 => h9) rfl (by decide +kernel) rfl rfl (Nat.le_of_ble_eq_true rfl) dX12_tells_345 (fun H locs hP hD hS => ?_)
                                    have hP : va_P D vwCl (mW K o r (upd u630 22 t676) a_37 g) H := hP
                                    have hD : va_D A (mW K o r (upd u630 22 t676) a_37 g) := hD
                                    refine k_gen (P := fun z => va_P D vwCl (mW K o r z a_37 g) H ∧ va_D A (mW K o r z a_37 g) ∧ (mI z a_37) ∧ (mE (XR []) f a z a_37) ∧ (mZ [22, 23, 24, 25] [26] f a z a_37) ∧ (eS z a_37 t false)) (upd u630 22 t676) ⟨hP, hD, (mI_f hI (fI_st hI.1 22 (kb_any _) (by decide) (by decide))), (mE_f hE (by decide)), (mZ_f hZ rfl), (eS_f hk0 (by decide) (by decide))⟩ (fun f_679 ef_679 hq => ?_)
                                    obtain ⟨hP, hD, hI, hE, hZ, hk0⟩ := hq
                                    refine lv_goto (tgt := 198) hx hb dX12_tells_348 (by decide) ?_
                                    exact ihlp53 (jj + 1) (cc + 1) f_679 _ _ _ 1 (by first | exact kn7_ml hmlp53 | (have w1 := hmlp53; omega)) hI hE hZ hk0 (kbl_w kcl_1 (by decide) (by decide)) (by rw [(show f_679 22 = t676 from kn7_u1 ef_679 rfl)]; exact hg678) (hnx.elim (fun q => Or.inl ⟨q.1, q.2.2.symm⟩) (fun q => Or.inr ⟨q.1, by first | exact kn7_sl q.2 | (have w1 := q.2; omega)⟩)) (by rw [lastOf_s, ct_y (hhk.trans (by rw [← c652]; decide +kernel)) (by have w1 := mt_1 hr637 c659; rw [kb_11 b651] at w1; exact w1) (by rw [hv1]; rfl)]; show (1 : Int64).toInt = max 0 (min hi.toInt (1)); have w0 := bhi.1; have k0 : (0 : Int64).toInt = 0 := (by decide +kernel); have k1 : (1 : Int64).toInt = 1 := (by decide +kernel); have k9t670 : t670.toInt = hi.toInt := (congrArg Int64.toInt et670).trans (kt_i2l _); omega) (by first | exact Nat.succ_le_of_lt hcs.1 | (have w1 := hcs.1; omega)) hP hD hS (lv_sub hl [0, 5, 6, 7, 8, 9, 10] rfl)
                                  · have h680 := klc_nle (et672 ▸ c673)
                                    have b681 : kbl 0 t670 0 := klr_lt1 h680 b671 kcl_1 (by decide)
                                    refine lv_iload hx hb dX12_tells_328 (lv_at hl 9 rfl) ?_
                                    refine lv_i2l hx hb dX12_tells_330 rfl ?_
                                    refine lv_topl (fun t682 et682 => ?_)
                                    have b683 : kbl 0 t682 20 := kbl_eq et682 (kbl_i2l bhi)
                                    refine lv_goto (tgt := 336) hx hb dX12_tells_331 (by decide) ?_
                                    refine lv_lstore (lv' := [(6, .long t682), (12, .int 1), (11, .int 0), (9, .long 1), (8, .int 4), (0, .ref o), (1, .int hd), (2, .int bd), (3, .int pt), (4, .int hi), (5, .int wo)]) hx hb dX12_tells_336 hl (by decide) rfl (fun ls hl => ?_)
                                    refine lv_aload_n hx hb dX12_tells_338 rfl (lv_at hl 5 rfl) ?_
                                    refine lv_dup hx hb dX12_tells_339 rfl ?_
                                    refine va_get (D := D) (ci := 12) (v := .int (u630 22)) (C := RX12) (T := TX12) (N := 48) hx hb hg inC12 hown hK hP 0 rfl rfl 22 (by decide) (hg _ wt5_182) (fun _ h9 => h9) rfl dX12_tells_340 ?_
                                    refine k_top (z := gv632) egv632.symm ?_
                                    refine lv_iconst (v := 1) hx hb dX12_tells_343 (by decide) ?_
                                    refine lv_iadd hx hb dX12_tells_344 ?_
                                    refine lv_topi (fun t684 et684 => ?_)
                                    have b685 : kb 1 t684 2802 := kb_eq et684 (kb_add b634 kc_1 (by decide) (by decide))
                                    have qt684 : t684.toInt = gv632.toInt + 1 := by rw [et684]; exact kt_addc b634 kc_1 (by decide) (by decide)
                                    have hg686 : t684.toInt = 400 * (t : Int) + ((jj + 1 : Nat) : Int) := by first | exact kn7_go qt684 hg633 | (rw [qt684, hg633]; omega)
                                    refine va_put (D := D) (ci := 12) (v := .int t684) (ty := .int) (C := RX12) (T := TX12) (N := 48) hx hb hg inC12 tyX12 tyX12_ok nmX12 hown hK hP hD hS 0 rfl rfl 22 (by decide) (hg _ wt5_182) (fun _ h9 => h9) rfl (by decide +kernel) rfl rfl (Nat.le_of_ble_eq_true rfl) dX12_tells_345 (fun H locs hP hD hS => ?_)
                                    have hP : va_P D vwCl (mW K o r (upd u630 22 t684) a_37 g) H := hP
                                    have hD : va_D A (mW K o r (upd u630 22 t684) a_37 g) := hD
                                    refine k_gen (P := fun z => va_P D vwCl (mW K o r z a_37 g) H ∧ va_D A (mW K o r z a_37 g) ∧ (mI z a_37) ∧ (mE (XR []) f a z a_37) ∧ (mZ [22, 23, 24, 25] [26] f a z a_37) ∧ (eS z a_37 t false)) (upd u630 22 t684) ⟨hP, hD, (mI_f hI (fI_st hI.1 22 (kb_any _) (by decide) (by decide))), (mE_f hE (by decide)), (mZ_f hZ rfl), (eS_f hk0 (by decide) (by decide))⟩ (fun f_687 ef_687 hq => ?_)
                                    obtain ⟨hP, hD, hI, hE, hZ, hk0⟩ := hq
                                    refine lv_goto (tgt := 198) hx hb dX12_tells_348 (by decide) ?_
                                    exact ihlp53 (jj + 1) (cc + 1) f_687 _ _ _ t682 (by first | exact kn7_ml hmlp53 | (have w1 := hmlp53; omega)) hI hE hZ hk0 b683 (by rw [(show f_687 22 = t684 from kn7_u1 ef_687 rfl)]; exact hg686) (hnx.elim (fun q => Or.inl ⟨q.1, q.2.2.symm⟩) (fun q => Or.inr ⟨q.1, by first | exact kn7_sl q.2 | (have w1 := q.2; omega)⟩)) (by rw [lastOf_s, ct_y (hhk.trans (by rw [← c652]; decide +kernel)) (by have w1 := mt_1 hr637 c659; rw [kb_11 b651] at w1; exact w1) (by rw [hv1]; rfl)]; show (t682 : Int64).toInt = max 0 (min hi.toInt (1)); have w0 := bhi.1; have k0 : (0 : Int64).toInt = 0 := (by decide +kernel); have k1 : (1 : Int64).toInt = 1 := (by decide +kernel); have k9 : t682.toInt = hi.toInt := (congrArg Int64.toInt et682).trans (kt_i2l _); have k9t670 : t670.toInt = hi.toInt := (congrArg Int64.toInt et670).trans (kt_i2l _); have k9t682 : t682.toInt = hi.toInt := (congrArg Int64.toInt et682).trans (kt_i2l _); omega) (by first | exact Nat.succ_le_of_lt hcs.1 | (have w1 := hcs.1; omega)) hP hD hS (lv_sub hl [0, 5, 6, 7, 8, 9, 10] rfl)
                                · have h688 := klc_nge (et667 ▸ c668)
                                  refine lv_lconst (v := 0) hx hb dX12_tells_315 (by decide) ?_
                                  refine lv_goto (tgt := 336) hx hb dX12_tells_316 (by decide) ?_
                                  refine lv_lstore (lv' := [(6, .long 0), (12, .int 1), (11, .int 0), (9, .long 1), (8, .int 4), (0, .ref o), (1, .int hd), (2, .int bd), (3, .int pt), (4, .int hi), (5, .int wo)]) hx hb dX12_tells_336 hl (by decide) rfl (fun ls hl => ?_)
                                  refine lv_aload_n hx hb dX12_tells_338 rfl (lv_at hl 5 rfl) ?_
                                  refine lv_dup hx hb dX12_tells_339 rfl ?_
                                  refine va_get (D := D) (ci := 12) (v := .int (u630 22)) (C := RX12) (T := TX12) (N := 48) hx hb hg inC12 hown hK hP 0 rfl rfl 22 (by decide) (hg _ wt5_182) (fun _ h9 => h9) rfl dX12_tells_340 ?_
                                  refine k_top (z := gv632) egv632.symm ?_
                                  refine lv_iconst (v := 1) hx hb dX12_tells_343 (by decide) ?_
                                  refine lv_iadd hx hb dX12_tells_344 ?_
                                  refine lv_topi (fun t689 et689 => ?_)
                                  have b690 : kb 1 t689 2802 := kb_eq et689 (kb_add b634 kc_1 (by decide) (by decide))
                                  have qt689 : t689.toInt = gv632.toInt + 1 := by rw [et689]; exact kt_addc b634 kc_1 (by decide) (by decide)
                                  have hg691 : t689.toInt = 400 * (t : Int) + ((jj + 1 : Nat) : Int) := by first | exact kn7_go qt689 hg633 | (rw [qt689, hg633]; omega)
                                  refine va_put (D := D) (ci := 12) (v := .int t689) (ty := .int) (C := RX12) (T := TX12) (N := 48) hx hb hg inC12 tyX12 tyX12_ok nmX12 hown hK hP hD hS 0 rfl rfl 22 (by decide) (hg _ wt5_182) (fun _ h9 => h9) rfl (by decide +kernel) rfl rfl (Nat.le_of_ble_eq_true rfl) dX12_tells_345 (fun H locs hP hD hS => ?_)
                                  have hP : va_P D vwCl (mW K o r (upd u630 22 t689) a_37 g) H := hP
                                  have hD : va_D A (mW K o r (upd u630 22 t689) a_37 g) := hD
                                  refine k_gen (P := fun z => va_P D vwCl (mW K o r z a_37 g) H ∧ va_D A (mW K o r z a_37 g) ∧ (mI z a_37) ∧ (mE (XR []) f a z a_37) ∧ (mZ [22, 23, 24, 25] [26] f a z a_37) ∧ (eS z a_37 t false)) (upd u630 22 t689) ⟨hP, hD, (mI_f hI (fI_st hI.1 22 (kb_any _) (by decide) (by decide))), (mE_f hE (by decide)), (mZ_f hZ rfl), (eS_f hk0 (by decide) (by decide))⟩ (fun f_692 ef_692 hq => ?_)
                                  obtain ⟨hP, hD, hI, hE, hZ, hk0⟩ := hq
                                  refine lv_goto (tgt := 198) hx hb dX12_tells_348 (by decide) ?_
                                  exact ihlp53 (jj + 1) (cc + 1) f_692 _ _ _ 0 (by first | exact kn7_ml hmlp53 | (have w1 := hmlp53; omega)) hI hE hZ hk0 (kbl_w kcl_0 (by decide) (by decide)) (by rw [(show f_692 22 = t689 from kn7_u1 ef_692 rfl)]; exact hg691) (hnx.elim (fun q => Or.inl ⟨q.1, q.2.2.symm⟩) (fun q => Or.inr ⟨q.1, by first | exact kn7_sl q.2 | (have w1 := q.2; omega)⟩)) (by rw [lastOf_s, ct_y (hhk.trans (by rw [← c652]; decide +kernel)) (by have w1 := mt_1 hr637 c659; rw [kb_11 b651] at w1; exact w1) (by rw [hv1]; rfl)]; show (0 : Int64).toInt = max 0 (min hi.toInt (1)); have w0 := bhi.1; have k0 : (0 : Int64).toInt = 0 := (by decide +kernel); have k1 : (1 : Int64).toInt = 1 := (by decide +kernel); omega) (by first | exact Nat.succ_le_of_lt hcs.1 | (have w1 := hcs.1; omega)) hP hD hS (lv_sub hl [0, 5, 6, 7, 8, 9, 10] rfl)
              · subst hj
                refine lv_aload_n hx hb dX12_tells_198 rfl (lv_at hl 1 rfl) ?_
                refine va_get (D := D) (ci := 12) (v := .int (F52 22)) (C := RX12) (T := TX12) (N := 48) hx hb hg inC12 hown hK hP 0 rfl rfl 22 (by decide) (hg _ wt5_182) (fun _ h9 => h9) rfl dX12_tells_199 ?_
                refine k_top (z := gv56) egv56.symm ?_
                refine lv_aload_n hx hb dX12_tells_202 rfl (lv_at hl 1 rfl) ?_
                refine va_get (D := D) (ci := 12) (v := .int (F52 23)) (C := RX12) (T := TX12) (N := 48) hx hb hg inC12 hown hK hP 0 rfl rfl 23 (by decide) (hg _ wt5_183) (fun _ h9 => h9) rfl dX12_tells_203 ?_
                refine lv_topi (fun t693 et693 => ?_)
                refine lv_icmp_ge (tgt := 351) hx hb dX12_tells_206 (by decide) (fun c694 => ?_) (fun c694 => ?_)
                · exact absurd (kc_le c694) (by have w1 := congrArg Int32.toInt et693.symm; have w2 := hk0.2.1; have w3 := hg57; have w4 := mC_lS hk0 (ne_0 (tq_y hp2 (x := 4) (y := 2007) (by decide +kernel) (by decide +kernel) h1) (by decide +kernel)); omega)
                · have h695 := (kc_nle c694)
                  have b696 : kb 1 t693 2147483647 := kr_lt2 h695 b604 (kb_any t693) (by decide)
                  refine lv_aload_n hx hb dX12_tells_209 rfl (lv_at hl 1 rfl) ?_
                  refine lv_aload_n hx hb dX12_tells_210 rfl (lv_at hl 1 rfl) ?_
                  refine va_get (D := D) (ci := 12) (v := .int (F52 22)) (C := RX12) (T := TX12) (N := 48) hx hb hg inC12 hown hK hP 0 rfl rfl 22 (by decide) (hg _ wt5_182) (fun _ h9 => h9) rfl dX12_tells_211 ?_
                  refine k_top (z := gv56) egv56.symm ?_
                  refine kI.callV (As := [.int gv56]) (rest := []) ⟨hx, hb, hml, hown, hg⟩ (m_codeAt l o r F52 a_37 g hI gv56  t (i) false hk0 hg57) (cwV 1 hg (kgV wt7_47 wt7_49 wp5_8 wt1_14 wt7_50) rfl rfl rfl (by decide +kernel) ⟨by decide, by decide⟩) hK hP hD hS hA mIs [] rfl (wr := []) rfl rfl rfl (fun i h => by cases h) 0 12 rfl rfl rfl hl.1 rfl (Nat.le_of_ble_eq_true rfl) dX12_tells_214 ⟨Nat.le_refl _, Nat.le_refl _⟩ (fun v698 u699 H locs hw697 hP hD hS => ?_)
                  have hP : va_P D vwCl (mW K o r F52 a_37 g) H := hP
                  have hD : va_D A (mW K o r F52 a_37 g) := hD
                  refine k_top (z := 4) (hw697.2.trans (tq_y hp2 (x := 4) (y := 2007) (by decide +kernel) (by decide +kernel) h1)) ?_
                  refine lv_istore (lv' := [(8, .int 4), (6, .long y51), (0, .ref o), (1, .int hd), (2, .int bd), (3, .int pt), (4, .int hi), (5, .int wo)]) hx hb dX12_tells_217 hl (by decide) rfl (fun ls hl => ?_)
                  refine lv_aload_n hx hb dX12_tells_219 rfl (lv_at hl 2 rfl) ?_
                  refine lv_iconst (v := 0) hx hb dX12_tells_220 (by decide) ?_
                  refine va_put (D := D) (ci := 12) (v := .int 0) (ty := .boolean) (C := RX12) (T := TX12) (N := 48) hx hb hg inC12 tyX12 tyX12_ok nmX12 hown hK hP hD hS 0 rfl rfl 24 (by decide) (hg _ wt5_184) (fun _ h9 => h9) rfl (by decide +kernel) rfl rfl (Nat.le_of_ble_eq_true rfl) dX12_tells_221 (fun H locs hP hD hS => ?_)
                  have hP : va_P D vwCl (mW K o r (upd F52 24 0) a_37 g) H := hP
                  have hD : va_D A (mW K o r (upd F52 24 0) a_37 g) := hD
                  refine k_gen (P := fun z => va_P D vwCl (mW K o r z a_37 g) H ∧ va_D A (mW K o r z a_37 g) ∧ (mI z a_37) ∧ (mE (XR []) f a z a_37) ∧ (mZ [22, 23, 24, 25] [26] f a z a_37) ∧ (eS z a_37 t false)) (upd F52 24 0) ⟨hP, hD, (mI_f hI (fI_st hI.1 24 kc_0 (by decide) (by decide))), (mE_f hE (by decide)), (mZ_f hZ rfl), (eS_f hk0 (by decide) (by decide))⟩ (fun f_700 ef_700 hq => ?_)
                  obtain ⟨hP, hD, hI, hE, hZ, hk0⟩ := hq
                  refine lv_aload_n hx hb dX12_tells_224 rfl (lv_at hl 2 rfl) ?_
                  refine lv_dup hx hb dX12_tells_225 rfl ?_
                  refine va_get (D := D) (ci := 12) (v := .int (f_700 22)) (C := RX12) (T := TX12) (N := 48) hx hb hg inC12 hown hK hP 0 rfl rfl 22 (by decide) (hg _ wt5_182) (fun _ h9 => h9) rfl dX12_tells_226 ?_
                  refine k_top (z := gv56) ((show f_700 22 = F52 22 from kn7_u1 ef_700 rfl).trans egv56.symm) ?_
                  refine lv_iconst (v := 1) hx hb dX12_tells_229 (by decide) ?_
                  refine lv_iadd hx hb dX12_tells_230 ?_
                  refine lv_topi (fun t701 et701 => ?_)
                  have b702 : kb 1 t701 2800 := kb_eq et701 (kb_add b604 kc_1 (by decide) (by decide))
                  have qt701 : t701.toInt = gv56.toInt + 1 := by rw [et701]; exact kt_addc b604 kc_1 (by decide) (by decide)
                  have hg703 : t701.toInt = 400 * (t : Int) + ((i + 1 : Nat) : Int) := by first | exact kn7_go qt701 hg57 | (rw [qt701, hg57]; omega)
                  have b704 : kb 0 t701 2801 := kb_go1 hk0 (by have w1 := hk0.2.2.2.2; omega) hg703
                  refine va_put (D := D) (ci := 12) (v := .int t701) (ty := .int) (C := RX12) (T := TX12) (N := 48) hx hb hg inC12 tyX12 tyX12_ok nmX12 hown hK hP hD hS 0 rfl rfl 22 (by decide) (hg _ wt5_182) (fun _ h9 => h9) rfl (by decide +kernel) rfl rfl (Nat.le_of_ble_eq_true rfl) dX12_tells_231 (fun H locs hP hD hS => ?_)
                  have hP : va_P D vwCl (mW K o r (upd f_700 22 t701) a_37 g) H := hP
                  have hD : va_D A (mW K o r (upd f_700 22 t701) a_37 g) := hD
                  refine k_gen (P := fun z => va_P D vwCl (mW K o r z a_37 g) H ∧ va_D A (mW K o r z a_37 g) ∧ (mI z a_37) ∧ (mE (XR []) f a z a_37) ∧ (mZ [22, 23, 24, 25] [26] f a z a_37) ∧ (eS z a_37 t false)) (upd f_700 22 t701) ⟨hP, hD, (mI_f hI (fI_st hI.1 22 (kb_any _) (by decide) (by decide))), (mE_f hE (by decide)), (mZ_f hZ rfl), (eS_f hk0 (by decide) (by decide))⟩ (fun f_705 ef_705 hq => ?_)
                  obtain ⟨hP, hD, hI, hE, hZ, hk0⟩ := hq
                  refine lv_iload hx hb dX12_tells_234 (lv_at hl 0 rfl) ?_
                  refine lv_iconst (v := 4) hx hb dX12_tells_236 (by decide) ?_
                  refine lv_icmp_ne (tgt := 244) hx hb dX12_tells_237 (by decide) (fun c706 => ?_) (fun c706 => ?_)
                  · exact kb_nsame c706 kc_4 kc_4
                  · refine lv_lconst (v := 1) hx hb dX12_tells_240 (by decide) ?_
                    refine lv_goto (tgt := 249) hx hb dX12_tells_241 (by decide) ?_
                    refine lv_lstore (lv' := [(9, .long 1), (8, .int 4), (6, .long y51), (0, .ref o), (1, .int hd), (2, .int bd), (3, .int pt), (4, .int hi), (5, .int wo)]) hx hb dX12_tells_249 hl (by decide) rfl (fun ls hl => ?_)
                    refine lv_aload_n hx hb dX12_tells_251 rfl (lv_at hl 3 rfl) ?_
                    refine va_get (D := D) (ci := 12) (v := .int (f_705 24)) (C := RX12) (T := TX12) (N := 48) hx hb hg inC12 hown hK hP 0 rfl rfl 24 (by decide) (hg _ wt5_184) (fun _ h9 => h9) rfl dX12_tells_252 ?_
                    refine k_top (z := 0) ((show f_705 24 = f_700 24 from kn7_u1 ef_705 rfl).trans (show f_700 24 = 0 from kn7_u1 ef_700 rfl)) ?_
                    refine lv_istore (lv' := [(11, .int 0), (9, .long 1), (8, .int 4), (6, .long y51), (0, .ref o), (1, .int hd), (2, .int bd), (3, .int pt), (4, .int hi), (5, .int wo)]) hx hb dX12_tells_255 hl (by decide) rfl (fun ls hl => ?_)
                    refine lv_aload_n hx hb dX12_tells_257 rfl (lv_at hl 4 rfl) ?_
                    refine lv_iconst (v := 0) hx hb dX12_tells_258 (by decide) ?_
                    refine va_put (D := D) (ci := 12) (v := .int 0) (ty := .boolean) (C := RX12) (T := TX12) (N := 48) hx hb hg inC12 tyX12 tyX12_ok nmX12 hown hK hP hD hS 0 rfl rfl 24 (by decide) (hg _ wt5_184) (fun _ h9 => h9) rfl (by decide +kernel) rfl rfl (Nat.le_of_ble_eq_true rfl) dX12_tells_259 (fun H locs hP hD hS => ?_)
                    have hP : va_P D vwCl (mW K o r (upd f_705 24 0) a_37 g) H := hP
                    have hD : va_D A (mW K o r (upd f_705 24 0) a_37 g) := hD
                    refine k_gen (P := fun z => va_P D vwCl (mW K o r z a_37 g) H ∧ va_D A (mW K o r z a_37 g) ∧ (mI z a_37) ∧ (mE (XR []) f a z a_37) ∧ (mZ [22, 23, 24, 25] [26] f a z a_37) ∧ (eS z a_37 t false)) (upd f_705 24 0) ⟨hP, hD, (mI_f hI (fI_st hI.1 24 kc_0 (by decide) (by decide))), (mE_f hE (by decide)), (mZ_f hZ rfl), (eS_f hk0 (by decide) (by decide))⟩ (fun f_707 ef_707 hq => ?_)
                    obtain ⟨hP, hD, hI, hE, hZ, hk0⟩ := hq
                    refine lv_aload_n hx hb dX12_tells_262 rfl (lv_at hl 4 rfl) ?_
                    refine lv_iconst (v := 5) hx hb dX12_tells_263 (by decide) ?_
                    refine kI.callV (As := [.int 5]) (rest := []) ⟨hx, hb, hml, hown, hg⟩ (m_passes0 l o r f_707 a_37 g hI 5 (kb_w kc_5 (by decide) (by decide)) t (i + 1) false hk0 (by rw [((show f_707 22 = f_705 22 from kn7_u1 ef_707 rfl).trans (show f_705 22 = t701 from kn7_u1 ef_705 rfl))]; exact hg703)) (cwV 1 hg (kgV wt7_63 wt7_65 wp5_12 wt1_14 wt7_66) rfl rfl rfl (by decide +kernel) ⟨by decide, by decide⟩) hK hP hD hS hA mIs [] rfl (wr := []) rfl rfl rfl (fun i h => by cases h) 0 12 rfl rfl rfl hl.1 rfl (Nat.le_of_ble_eq_true rfl) dX12_tells_264 ⟨Nat.le_refl _, Nat.le_refl _⟩ (fun v709 u710 H locs hw708 hP hD hS => ?_)
                    have hP : va_P D vwCl (mW K o r u710 a_37 g) H := hP
                    have hD : va_D A (mW K o r u710 a_37 g) := hD
                    have hI : mI u710 a_37 := hw708.2.1
                    have eE711 : fE [22] f_707 u710 := hw708.2.2.1
                    have hE : mE (XR []) f a u710 a_37 := mE_fE hE eE711 (by decide)
                    have hZ : mZ [22, 23, 24, 25] [26] f a u710 a_37 := mZ_fE hZ (fE_w (by decide) eE711)
                    have hk0 : eS u710 a_37 t false := eS_fE eE711 hk0 (by decide) (by decide)
                    have hz712 := pass_n hw708.2.2.2 (tq_n hp2 (x := 5) (y := 2003) (by decide +kernel) (by decide +kernel) h2)
                    refine k_top (z := 0) hz712.1 ?_
                    obtain ⟨gv713, egv713⟩ : ∃ z : Int32, z = u710 22 := ⟨_, rfl⟩
                    have hg714 : gv713.toInt = 400 * (t : Int) + ((i + 1 : Nat) : Int) := by rw [egv713]; exact hz712.2
                    have b715 : kb 0 gv713 2801 := kb_go1 hk0 (by have w1 := hk0.2.2.2.2; omega) hg714
                    refine lv_if_eq (tgt := 278) hx hb dX12_tells_267 (by decide) (fun c716 => ?_) (fun c716 => ?_)
                    · refine lv_iconst (v := 1) hx hb dX12_tells_278 (by decide) ?_
                      refine lv_goto (tgt := 283) hx hb dX12_tells_279 (by decide) ?_
                      refine lv_istore (lv' := [(12, .int 1), (11, .int 0), (9, .long 1), (8, .int 4), (6, .long y51), (0, .ref o), (1, .int hd), (2, .int bd), (3, .int pt), (4, .int hi), (5, .int wo)]) hx hb dX12_tells_283 hl (by decide) rfl (fun ls hl => ?_)
                      refine lv_iload hx hb dX12_tells_285 (lv_at hl 3 rfl) ?_
                      refine lv_iload_n hx hb dX12_tells_287 rfl (lv_at hl 6 rfl) ?_
                      refine lv_icmp_ne (tgt := 338) hx hb dX12_tells_288 (by decide) (fun c717 => ?_) (fun c717 => ?_)
                      · refine lv_aload_n hx hb dX12_tells_338 rfl (lv_at hl 5 rfl) ?_
                        refine lv_dup hx hb dX12_tells_339 rfl ?_
                        refine va_get (D := D) (ci := 12) (v := .int (u710 22)) (C := RX12) (T := TX12) (N := 48) hx hb hg inC12 hown hK hP 0 rfl rfl 22 (by decide) (hg _ wt5_182) (fun _ h9 => h9) rfl dX12_tells_340 ?_
                        refine k_top (z := gv713) egv713.symm ?_
                        refine lv_iconst (v := 1) hx hb dX12_tells_343 (by decide) ?_
                        refine lv_iadd hx hb dX12_tells_344 ?_
                        refine lv_topi (fun t718 et718 => ?_)
                        have b719 : kb 1 t718 2802 := kb_eq et718 (kb_add b715 kc_1 (by decide) (by decide))
                        have qt718 : t718.toInt = gv713.toInt + 1 := by rw [et718]; exact kt_addc b715 kc_1 (by decide) (by decide)
                        have hg720 : t718.toInt = 400 * (t : Int) + ((i + 1 + 1 : Nat) : Int) := by first | exact kn7_go qt718 hg714 | (rw [qt718, hg714]; omega)
                        refine va_put (D := D) (ci := 12) (v := .int t718) (ty := .int) (C := RX12) (T := TX12) (N := 48) hx hb hg inC12 tyX12 tyX12_ok nmX12 hown hK hP hD hS 0 rfl rfl 22 (by decide) (hg _ wt5_182) (fun _ h9 => h9) rfl (by decide +kernel) rfl rfl (Nat.le_of_ble_eq_true rfl) dX12_tells_345 (fun H locs hP hD hS => ?_)
                        have hP : va_P D vwCl (mW K o r (upd u710 22 t718) a_37 g) H := hP
                        have hD : va_D A (mW K o r (upd u710 22 t718) a_37 g) := hD
                        refine k_gen (P := fun z => va_P D vwCl (mW K o r z a_37 g) H ∧ va_D A (mW K o r z a_37 g) ∧ (mI z a_37) ∧ (mE (XR []) f a z a_37) ∧ (mZ [22, 23, 24, 25] [26] f a z a_37) ∧ (eS z a_37 t false)) (upd u710 22 t718) ⟨hP, hD, (mI_f hI (fI_st hI.1 22 (kb_any _) (by decide) (by decide))), (mE_f hE (by decide)), (mZ_f hZ rfl), (eS_f hk0 (by decide) (by decide))⟩ (fun f_721 ef_721 hq => ?_)
                        obtain ⟨hP, hD, hI, hE, hZ, hk0⟩ := hq
                        refine lv_goto (tgt := 198) hx hb dX12_tells_348 (by decide) ?_
                        exact ihlp53 (i + 1 + 1) (cc + 1) f_721 _ _ _ y51 (by first | exact kn7_ml hmlp53 | (have w1 := hmlp53; omega)) hI hE hZ hk0 b55 (by rw [(show f_721 22 = t718 from kn7_u1 ef_721 rfl)]; exact hg720) (hnx.elim (fun q => Or.inl ⟨q.1, q.2.2.symm⟩) (fun q => Or.inr ⟨q.1, by first | exact kn7_sl q.2 | (have w1 := q.2; omega)⟩)) (by rw [lastOf_s, ct_n (fun q => c717 (Int32.toInt_inj.mp (by first | exact (kHd_j (hhk.symm.trans q) bhd).trans (by decide +kernel) | (have w1 := kHd_j (hhk.symm.trans q) bhd; have w2 : (4 : Int32).toInt = 4 := (by decide +kernel); omega))))]; exact htd) (by first | exact Nat.succ_le_of_lt hcs.1 | (have w1 := hcs.1; omega)) hP hD hS (lv_sub hl [4, 5, 6, 7, 8, 9, 10] rfl)
                      · have b722 : kb 4 hd 4 := kb_eq c717.symm kc_4
                        refine lv_iload hx hb dX12_tells_291 (lv_at hl 0 rfl) ?_
                        refine lv_if_eq (tgt := 338) hx hb dX12_tells_293 (by decide) (fun c723 => ?_) (fun c723 => ?_)
                        · exact kb_dj c723 kc_1 kc_0 (by decide)
                        · refine lv_aload_n hx hb dX12_tells_296 rfl (lv_at hl 5 rfl) ?_
                          refine va_get (D := D) (ci := 12) (v := .int (u710 24)) (C := RX12) (T := TX12) (N := 48) hx hb hg inC12 hown hK hP 0 rfl rfl 24 (by decide) (hg _ wt5_184) (fun _ h9 => h9) rfl dX12_tells_297 ?_
                          refine k_top (z := 0) ((eE711 24 (by decide)).trans (show f_707 24 = 0 from kn7_u1 ef_707 rfl)) ?_
                          refine lv_if_ne (tgt := 338) hx hb dX12_tells_300 (by decide) (fun c724 => ?_) (fun c724 => ?_)
                          · exact kb_nsame c724 kc_0 kc_0
                          · refine lv_iload hx hb dX12_tells_303 (lv_at hl 1 rfl) ?_
                            refine lv_if_ne (tgt := 338) hx hb dX12_tells_305 (by decide) (fun c725 => ?_) (fun c725 => ?_)
                            · exact kb_nsame c725 kc_0 kc_0
                            · refine lv_lload hx hb dX12_tells_308 (lv_at hl 2 rfl) ?_
                              refine lv_lconst (v := 0) hx hb dX12_tells_310 (by decide) ?_
                              refine W.lcmp hx hb dX12_tells_311 ?_
                              refine lv_topi (fun t726 et726 => ?_)
                              refine lv_if_ge (tgt := 319) hx hb dX12_tells_312 (by decide) (fun c727 => ?_) (fun c727 => ?_)
                              · have h728 := klc_ge (et726 ▸ c727)
                                refine lv_lload hx hb dX12_tells_319 (lv_at hl 2 rfl) ?_
                                refine lv_iload hx hb dX12_tells_321 (lv_at hl 9 rfl) ?_
                                refine lv_i2l hx hb dX12_tells_323 rfl ?_
                                refine lv_topl (fun t729 et729 => ?_)
                                have b730 : kbl 0 t729 20 := kbl_eq et729 (kbl_i2l bhi)
                                refine W.lcmp hx hb dX12_tells_324 ?_
                                refine lv_topi (fun t731 et731 => ?_)
                                refine lv_if_le (tgt := 334) hx hb dX12_tells_325 (by decide) (fun c732 => ?_) (fun c732 => ?_)
                                · have h733 := klc_le (et731 ▸ c732)
                                  have b734 : kbl 1 t729 20 := klr_le2 h733 kcl_1 b730
                                  refine lv_lload hx hb dX12_tells_334 (lv_at hl 2 rfl) ?_
                                  refine lv_lstore (lv' := [(6, .long 1), (12, .int 1), (11, .int 0), (9, .long 1), (8, .int 4), (0, .ref o), (1, .int hd), (2, .int bd), (3, .int pt), (4, .int hi), (5, .int wo)]) hx hb dX12_tells_336 hl (by decide) rfl (fun ls hl => ?_)
                                  refine lv_aload_n hx hb dX12_tells_338 rfl (lv_at hl 5 rfl) ?_
                                  refine lv_dup hx hb dX12_tells_339 rfl ?_
                                  refine va_get (D := D) (ci := 12) (v := .int (u710 22)) (C := RX12) (T := TX12) (N := 48) hx hb hg inC12 hown hK hP 0 rfl rfl 22 (by decide) (hg _ wt5_182) (fun _ h9 => h9) rfl dX12_tells_340 ?_
                                  refine k_top (z := gv713) egv713.symm ?_
                                  refine lv_iconst (v := 1) hx hb dX12_tells_343 (by decide) ?_
                                  refine lv_iadd hx hb dX12_tells_344 ?_
                                  refine lv_topi (fun t735 et735 => ?_)
                                  have b736 : kb 1 t735 2802 := kb_eq et735 (kb_add b715 kc_1 (by decide) (by decide))
                                  have qt735 : t735.toInt = gv713.toInt + 1 := by rw [et735]; exact kt_addc b715 kc_1 (by decide) (by decide)
                                  have hg737 : t735.toInt = 400 * (t : Int) + ((i + 1 + 1 : Nat) : Int) := by first | exact kn7_go qt735 hg714 | (rw [qt735, hg714]; omega)
                                  refine va_put (D := D) (ci := 12) (v := .int t735) (ty := .int) (C := RX12) (T := TX12) (N := 48) hx hb hg inC12 tyX12 tyX12_ok nmX12 hown hK hP hD hS 0 rfl rfl 22 (by decide) (hg _ wt5_182) (fun _ h9 => h9) rfl (by decide +kernel) rfl rfl (Nat.le_of_ble_eq_true rfl) dX12_tells_345 (fun H locs hP hD hS => ?_)
                                  have hP : va_P D vwCl (mW K o r (upd u710 22 t735) a_37 g) H := hP
                                  have hD : va_D A (mW K o r (upd u710 22 t735) a_37 g) := hD
                                  refine k_gen (P := fun z => va_P D vwCl (mW K o r z a_37 g) H ∧ va_D A (mW K o r z a_37 g) ∧ (mI z a_37) ∧ (mE (XR []) f a z a_37) ∧ (mZ [22, 23, 24, 25] [26] f a z a_37) ∧ (eS z a_37 t false)) (upd u710 22 t735) ⟨hP, hD, (mI_f hI (fI_st hI.1 22 (kb_any _) (by decide) (by decide))), (mE_f hE (by decide)), (mZ_f hZ rfl), (eS_f hk0 (by decide) (by decide))⟩ (fun f_738 ef_738 hq => ?_)
                                  obtain ⟨hP, hD, hI, hE, hZ, hk0⟩ := hq
                                  refine lv_goto (tgt := 198) hx hb dX12_tells_348 (by decide) ?_
                                  exact ihlp53 (i + 1 + 1) (cc + 1) f_738 _ _ _ 1 (by first | exact kn7_ml hmlp53 | (have w1 := hmlp53; omega)) hI hE hZ hk0 (kbl_w kcl_1 (by decide) (by decide)) (by rw [(show f_738 22 = t735 from kn7_u1 ef_738 rfl)]; exact hg737) (hnx.elim (fun q => Or.inl ⟨q.1, q.2.2.symm⟩) (fun q => Or.inr ⟨q.1, by first | exact kn7_sl q.2 | (have w1 := q.2; omega)⟩)) (by rw [lastOf_s, ct_y (hhk.trans (by rw [← c717]; decide +kernel)) (by rw [hv3]; rfl) (by rw [hv1]; rfl)]; show (1 : Int64).toInt = max 0 (min hi.toInt (1)); have w0 := bhi.1; have k0 : (0 : Int64).toInt = 0 := (by decide +kernel); have k1 : (1 : Int64).toInt = 1 := (by decide +kernel); have k9t729 : t729.toInt = hi.toInt := (congrArg Int64.toInt et729).trans (kt_i2l _); omega) (by first | exact Nat.succ_le_of_lt hcs.1 | (have w1 := hcs.1; omega)) hP hD hS (lv_sub hl [0, 5, 6, 7, 8, 9, 10] rfl)
                                · have h739 := klc_nle (et731 ▸ c732)
                                  have b740 : kbl 0 t729 0 := klr_lt1 h739 b730 kcl_1 (by decide)
                                  refine lv_iload hx hb dX12_tells_328 (lv_at hl 9 rfl) ?_
                                  refine lv_i2l hx hb dX12_tells_330 rfl ?_
                                  refine lv_topl (fun t741 et741 => ?_)
                                  have b742 : kbl 0 t741 20 := kbl_eq et741 (kbl_i2l bhi)
                                  refine lv_goto (tgt := 336) hx hb dX12_tells_331 (by decide) ?_
                                  refine lv_lstore (lv' := [(6, .long t741), (12, .int 1), (11, .int 0), (9, .long 1), (8, .int 4), (0, .ref o), (1, .int hd), (2, .int bd), (3, .int pt), (4, .int hi), (5, .int wo)]) hx hb dX12_tells_336 hl (by decide) rfl (fun ls hl => ?_)
                                  refine lv_aload_n hx hb dX12_tells_338 rfl (lv_at hl 5 rfl) ?_
                                  refine lv_dup hx hb dX12_tells_339 rfl ?_
                                  refine va_get (D := D) (ci := 12) (v := .int (u710 22)) (C := RX12) (T := TX12) (N := 48) hx hb hg inC12 hown hK hP 0 rfl rfl 22 (by decide) (hg _ wt5_182) (fun _ h9 => h9) rfl dX12_tells_340 ?_
                                  refine k_top (z := gv713) egv713.symm ?_
                                  refine lv_iconst (v := 1) hx hb dX12_tells_343 (by decide) ?_
                                  refine lv_iadd hx hb dX12_tells_344 ?_
                                  refine lv_topi (fun t743 et743 => ?_)
                                  have b744 : kb 1 t743 2802 := kb_eq et743 (kb_add b715 kc_1 (by decide) (by decide))
                                  have qt743 : t743.toInt = gv713.toInt + 1 := by rw [et743]; exact kt_addc b715 kc_1 (by decide) (by decide)
                                  have hg745 : t743.toInt = 400 * (t : Int) + ((i + 1 + 1 : Nat) : Int) := by first | exact kn7_go qt743 hg714 | (rw [qt743, hg714]; omega)
                                  refine va_put (D := D) (ci := 12) (v := .int t743) (ty := .int) (C := RX12) (T := TX12) (N := 48) hx hb hg inC12 tyX12 tyX12_ok nmX12 hown hK hP hD hS 0 rfl rfl 22 (by decide) (hg _ wt5_182) (fun _ h9 => h9) rfl (by decide +kernel) rfl rfl (Nat.le_of_ble_eq_true rfl) dX12_tells_345 (fun H locs hP hD hS => ?_)
                                  have hP : va_P D vwCl (mW K o r (upd u710 22 t743) a_37 g) H := hP
                                  have hD : va_D A (mW K o r (upd u710 22 t743) a_37 g) := hD
                                  refine k_gen (P := fun z => va_P D vwCl (mW K o r z a_37 g) H ∧ va_D A (mW K o r z a_37 g) ∧ (mI z a_37) ∧ (mE (XR []) f a z a_37) ∧ (mZ [22, 23, 24, 25] [26] f a z a_37) ∧ (eS z a_37 t false)) (upd u710 22 t743) ⟨hP, hD, (mI_f hI (fI_st hI.1 22 (kb_any _) (by decide) (by decide))), (mE_f hE (by decide)), (mZ_f hZ rfl), (eS_f hk0 (by decide) (by decide))⟩ (fun f_746 ef_746 hq => ?_)
                                  obtain ⟨hP, hD, hI, hE, hZ, hk0⟩ := hq
                                  refine lv_goto (tgt := 198) hx hb dX12_tells_348 (by decide) ?_
                                  exact ihlp53 (i + 1 + 1) (cc + 1) f_746 _ _ _ t741 (by first | exact kn7_ml hmlp53 | (have w1 := hmlp53; omega)) hI hE hZ hk0 b742 (by rw [(show f_746 22 = t743 from kn7_u1 ef_746 rfl)]; exact hg745) (hnx.elim (fun q => Or.inl ⟨q.1, q.2.2.symm⟩) (fun q => Or.inr ⟨q.1, by first | exact kn7_sl q.2 | (have w1 := q.2; omega)⟩)) (by rw [lastOf_s, ct_y (hhk.trans (by rw [← c717]; decide +kernel)) (by rw [hv3]; rfl) (by rw [hv1]; rfl)]; show (t741 : Int64).toInt = max 0 (min hi.toInt (1)); have w0 := bhi.1; have k0 : (0 : Int64).toInt = 0 := (by decide +kernel); have k1 : (1 : Int64).toInt = 1 := (by decide +kernel); have k9 : t741.toInt = hi.toInt := (congrArg Int64.toInt et741).trans (kt_i2l _); have k9t729 : t729.toInt = hi.toInt := (congrArg Int64.toInt et729).trans (kt_i2l _); have k9t741 : t741.toInt = hi.toInt := (congrArg Int64.toInt et741).trans (kt_i2l _); omega) (by first | exact Nat.succ_le_of_lt hcs.1 | (have w1 := hcs.1; omega)) hP hD hS (lv_sub hl [0, 5, 6, 7, 8, 9, 10] rfl)
                              · have h747 := klc_nge (et726 ▸ c727)
                                refine lv_lconst (v := 0) hx hb dX12_tells_315 (by decide) ?_
                                refine lv_goto (tgt := 336) hx hb dX12_tells_316 (by decide) ?_
                                refine lv_lstore (lv' := [(6, .long 0), (12, .int 1), (11, .int 0), (9, .long 1), (8, .int 4), (0, .ref o), (1, .int hd), (2, .int bd), (3, .int pt), (4, .int hi), (5, .int wo)]) hx hb dX12_tells_336 hl (by decide) rfl (fun ls hl => ?_)
                                refine lv_aload_n hx hb dX12_tells_338 rfl (lv_at hl 5 rfl) ?_
                                refine lv_dup hx hb dX12_tells_339 rfl ?_
                                refine va_get (D := D) (ci := 12) (v := .int (u710 22)) (C := RX12) (T := TX12) (N := 48) hx hb hg inC12 hown hK hP 0 rfl rfl 22 (by decide) (hg _ wt5_182) (fun _ h9 => h9) rfl dX12_tells_340 ?_
                                refine k_top (z := gv713) egv713.symm ?_
                                refine lv_iconst (v := 1) hx hb dX12_tells_343 (by decide) ?_
                                refine lv_iadd hx hb dX12_tells_344 ?_
                                refine lv_topi (fun t748 et748 => ?_)
                                have b749 : kb 1 t748 2802 := kb_eq et748 (kb_add b715 kc_1 (by decide) (by decide))
                                have qt748 : t748.toInt = gv713.toInt + 1 := by rw [et748]; exact kt_addc b715 kc_1 (by decide) (by decide)
                                have hg750 : t748.toInt = 400 * (t : Int) + ((i + 1 + 1 : Nat) : Int) := by first | exact kn7_go qt748 hg714 | (rw [qt748, hg714]; omega)
                                refine va_put (D := D) (ci := 12) (v := .int t748) (ty := .int) (C := RX12) (T := TX12) (N := 48) hx hb hg inC12 tyX12 tyX12_ok nmX12 hown hK hP hD hS 0 rfl rfl 22 (by decide) (hg _ wt5_182) (fun _ h9 => h9) rfl (by decide +kernel) rfl rfl (Nat.le_of_ble_eq_true rfl) dX12_tells_345 (fun H locs hP hD hS => ?_)
                                have hP : va_P D vwCl (mW K o r (upd u710 22 t748) a_37 g) H := hP
                                have hD : va_D A (mW K o r (upd u710 22 t748) a_37 g) := hD
                                refine k_gen (P := fun z => va_P D vwCl (mW K o r z a_37 g) H ∧ va_D A (mW K o r z a_37 g) ∧ (mI z a_37) ∧ (mE (XR []) f a z a_37) ∧ (mZ [22, 23, 24, 25] [26] f a z a_37) ∧ (eS z a_37 t false)) (upd u710 22 t748) ⟨hP, hD, (mI_f hI (fI_st hI.1 22 (kb_any _) (by decide) (by decide))), (mE_f hE (by decide)), (mZ_f hZ rfl), (eS_f hk0 (by decide) (by decide))⟩ (fun f_751 ef_751 hq => ?_)
                                obtain ⟨hP, hD, hI, hE, hZ, hk0⟩ := hq
                                refine lv_goto (tgt := 198) hx hb dX12_tells_348 (by decide) ?_
                                exact ihlp53 (i + 1 + 1) (cc + 1) f_751 _ _ _ 0 (by first | exact kn7_ml hmlp53 | (have w1 := hmlp53; omega)) hI hE hZ hk0 (kbl_w kcl_0 (by decide) (by decide)) (by rw [(show f_751 22 = t748 from kn7_u1 ef_751 rfl)]; exact hg750) (hnx.elim (fun q => Or.inl ⟨q.1, q.2.2.symm⟩) (fun q => Or.inr ⟨q.1, by first | exact kn7_sl q.2 | (have w1 := q.2; omega)⟩)) (by rw [lastOf_s, ct_y (hhk.trans (by rw [← c717]; decide +kernel)) (by rw [hv3]; rfl) (by rw [hv1]; rfl)]; show (0 : Int64).toInt = max 0 (min hi.toInt (1)); have w0 := bhi.1; have k0 : (0 : Int64).toInt = 0 := (by decide +kernel); have k1 : (1 : Int64).toInt = 1 := (by decide +kernel); omega) (by first | exact Nat.succ_le_of_lt hcs.1 | (have w1 := hcs.1; omega)) hP hD hS (lv_sub hl [0, 5, 6, 7, 8, 9, 10] rfl)
                    · exact kb_nsame c716 kc_0 kc_0
          · refine lv_aload_n hx hb dX12_tells_198 rfl (lv_at hl 1 rfl) ?_
            refine va_get (D := D) (ci := 12) (v := .int (F52 22)) (C := RX12) (T := TX12) (N := 48) hx hb hg inC12 hown hK hP 0 rfl rfl 22 (by decide) (hg _ wt5_182) (fun _ h9 => h9) rfl dX12_tells_199 ?_
            refine k_top (z := gv56) egv56.symm ?_
            refine lv_aload_n hx hb dX12_tells_202 rfl (lv_at hl 1 rfl) ?_
            refine va_get (D := D) (ci := 12) (v := .int (F52 23)) (C := RX12) (T := TX12) (N := 48) hx hb hg inC12 hown hK hP 0 rfl rfl 23 (by decide) (hg _ wt5_183) (fun _ h9 => h9) rfl dX12_tells_203 ?_
            refine lv_topi (fun t752 et752 => ?_)
            refine lv_icmp_ge (tgt := 351) hx hb dX12_tells_206 (by decide) (fun c753 => ?_) (fun c753 => ?_)
            · have h754 := (kc_le c753)
              refine lv_lload hx hb dX12_tells_351 (lv_at hl 0 rfl) ?_
              refine lv_l2i hx hb dX12_tells_353 rfl ?_
              refine lv_topi (fun t755 et755 => ?_)
              have b756 : kb 0 t755 20 := kb_eq et755 (kb_l2i b55 (by decide) (by decide))
              exact kI_ret (v := t755) hx hb hr hlocks rfl hK hS dX12_tells_354 (F52, a_37, g) hP hD ⟨b756, hI, hE, (by unfold tlF; rw [if_neg (fun q => c3 (et1.trans q))]; show _ = lastOf _ _ _; rw [et755, kt_l2i (by have w1 := (b55).1; omega) (by have w1 := (b55).2; omega)]; rw [← hcs.1]; exact htd), hZ⟩
            · exact absurd (kc_nle c753) (by have w1 := congrArg Int32.toInt et752.symm; have w2 := hk0.2.1; have w3 := hg57; have w4 := hcs.2; omega)
      exact lp53 (((DD (a 2 106).toInt.toNat).1 + 1)) 0 0 f_50 _ _ _ t39 (by omega) hI hE hZ hk0 b40 (by rw [((show f_50 22 = f_43 22 from kn7_u1 ef_50 rfl).trans (show f_43 22 = t41 from kn7_u1 ef_43 rfl))]; exact hg0) (Or.inl ⟨by have w1 := hTx.1; omega, hTx.2.2.1.symm⟩) (by show _ = lastOf (clT (DD (a 2 106).toInt.toNat) (kHd (hd.toInt.toNat - 1)) (lwW (a 2) bd pt) hi.toInt) wo.toInt 0; exact (congrArg Int64.toInt et39).trans (kt_i2l _)) (Nat.zero_le _) hP hD hS (lv_sub hl [0, 1, 2, 3, 4, 5, 6] rfl)
    · have b757 : kb 1 v13 1 := kr_nel c15 hw12.1 kc_0 (by decide)
      refine lv_iconst (v := 1) hx hb dX12_tells_57 (by decide) ?_
      refine lv_goto (tgt := 62) hx hb dX12_tells_58 (by decide) ?_
      refine va_iast hx hb hK hP hD hS 12 0 rfl rfl (kb_in kc_3 (by decide) (by decide)) dX12_tells_62 (fun H locs hP hD hS => ?_)
      rw [cl_3] at hP hD
      have hP : va_P D vwCl (mW K o r f (va_up a_11 26 (upd (a_11 26) 3 1)) g) H := hP
      have hD : va_D A (mW K o r f (va_up a_11 26 (upd (a_11 26) 3 1)) g) := hD
      refine k_gen (P := fun z => va_P D vwCl (mW K o r f z g) H ∧ va_D A (mW K o r f z g) ∧ (mI f z) ∧ (mE (XR []) f a f z) ∧ (mZ [22, 23, 24, 25] [26] f a f z)) (va_up a_11 26 (upd (a_11 26) 3 1)) ⟨hP, hD, (mI_s hI (aI_free hI.2.1 26 _ (fun j => ⟨by show (mBa 26 j).1 ≤ _; exact Int.le_refl _, by show _ ≤ (mBa 26 j).2; exact Int.le_refl _⟩)) (by decide) (by decide)), (mE_s hE (by decide) (by decide) (by decide) (by decide)), (mZ_a hZ rfl)⟩ (fun a_758 ea_758 hq => ?_)
      obtain ⟨hP, hD, hI, hE, hZ⟩ := hq
      refine lv_aload_n hx hb dX12_tells_63 rfl (lv_at hl 0 rfl) ?_
      refine va_get (D := D) (ci := 12) (v := .ref (r 26)) (C := RX12) (T := TX12) (N := 48) hx hb hg inC12 hown hK hP 0 rfl rfl 26 (by decide) (hg _ wt5_186) (fun _ h9 => h9) rfl dX12_tells_64 ?_
      refine lv_iconst (v := 4) hx hb dX12_tells_67 (by decide) ?_
      refine lv_aload_n hx hb dX12_tells_68 rfl (lv_at hl 0 rfl) ?_
      refine va_get (D := D) (ci := 12) (v := .ref (r 2)) (C := RX12) (T := TX12) (N := 48) hx hb hg inC12 hown hK hP 0 rfl rfl 2 (by decide) (hg _ wt5_162) (fun _ h9 => h9) rfl dX12_tells_69 ?_
      refine lv_bipush (v := 53) hx hb dX12_tells_72 (by decide) ?_
      refine lv_iload_n hx hb dX12_tells_74 rfl (lv_at hl 3 rfl) ?_
      refine lv_iadd hx hb dX12_tells_75 ?_
      refine lv_topi (fun t759 et759 => ?_)
      have b760 : kb 53 t759 62 := kb_eq et759 (kb_add kc_53 bpt (by decide) (by decide))
      have qt759 : t759.toInt = 53 + pt.toInt := by rw [et759]; exact kt_cadd kc_53 bpt (by decide) (by decide)
      refine va_iald hx hb hK hP 2 0 rfl rfl (kb_in b760 (by decide) (by decide)) dX12_tells_76 ?_
      refine lv_topi (fun t761 et761 => ?_)
      refine va_iast hx hb hK hP hD hS 12 0 rfl rfl (kb_in kc_4 (by decide) (by decide)) dX12_tells_77 (fun H locs hP hD hS => ?_)
      rw [cl_4] at hP hD
      have hP : va_P D vwCl (mW K o r f (va_up a_758 26 (upd (a_758 26) 4 t761)) g) H := hP
      have hD : va_D A (mW K o r f (va_up a_758 26 (upd (a_758 26) 4 t761)) g) := hD
      refine k_gen (P := fun z => va_P D vwCl (mW K o r f z g) H ∧ va_D A (mW K o r f z g) ∧ (mI f z) ∧ (mE (XR []) f a f z) ∧ (mZ [22, 23, 24, 25] [26] f a f z)) (va_up a_758 26 (upd (a_758 26) 4 t761)) ⟨hP, hD, (mI_s hI (aI_free hI.2.1 26 _ (fun j => ⟨by show (mBa 26 j).1 ≤ _; exact Int.le_refl _, by show _ ≤ (mBa 26 j).2; exact Int.le_refl _⟩)) (by decide) (by decide)), (mE_s hE (by decide) (by decide) (by decide) (by decide)), (mZ_a hZ rfl)⟩ (fun a_762 ea_762 hq => ?_)
      obtain ⟨hP, hD, hI, hE, hZ⟩ := hq
      refine lv_aload_n hx hb dX12_tells_78 rfl (lv_at hl 0 rfl) ?_
      refine va_get (D := D) (ci := 12) (v := .ref (r 26)) (C := RX12) (T := TX12) (N := 48) hx hb hg inC12 hown hK hP 0 rfl rfl 26 (by decide) (hg _ wt5_186) (fun _ h9 => h9) rfl dX12_tells_79 ?_
      refine lv_iconst (v := 5) hx hb dX12_tells_82 (by decide) ?_
      refine lv_aload_n hx hb dX12_tells_83 rfl (lv_at hl 0 rfl) ?_
      refine lv_iload_n hx hb dX12_tells_84 rfl (lv_at hl 2 rfl) ?_
      refine lv_iload_n hx hb dX12_tells_85 rfl (lv_at hl 3 rfl) ?_
      refine kI.callV (As := [.int bd, .int pt]) (rest := [.int 5, .ref (r 26)]) ⟨hx, hb, hml, hown, hg⟩ (n_others l o r f a_762 g hI bd pt (kb_w bbd (by decide) (by decide)) ) (cwV 2 hg (kgV wt7_43 wt7_45 wp5_7 wt1_14 wt7_46) rfl rfl rfl (by decide +kernel) ⟨by decide, by decide⟩) hK hP hD hS hA mIs [] rfl (wr := []) rfl rfl rfl (fun i h => by cases h) 0 12 rfl rfl rfl hl.1 rfl (Nat.le_of_ble_eq_true rfl) dX12_tells_86 ⟨Nat.le_refl _, Nat.le_refl _⟩ (fun v764 u765 H locs hw763 hP hD hS => ?_)
      have hP : va_P D vwCl (mW K o r f a_762 g) H := hP
      have hD : va_D A (mW K o r f a_762 g) := hD
      refine va_iast hx hb hK hP hD hS 12 0 rfl rfl (kb_in kc_5 (by decide) (by decide)) dX12_tells_89 (fun H locs hP hD hS => ?_)
      rw [cl_5] at hP hD
      have hP : va_P D vwCl (mW K o r f (va_up a_762 26 (upd (a_762 26) 5 v764)) g) H := hP
      have hD : va_D A (mW K o r f (va_up a_762 26 (upd (a_762 26) 5 v764)) g) := hD
      refine k_gen (P := fun z => va_P D vwCl (mW K o r f z g) H ∧ va_D A (mW K o r f z g) ∧ (mI f z) ∧ (mE (XR []) f a f z) ∧ (mZ [22, 23, 24, 25] [26] f a f z)) (va_up a_762 26 (upd (a_762 26) 5 v764)) ⟨hP, hD, (mI_s hI (aI_free hI.2.1 26 _ (fun j => ⟨by show (mBa 26 j).1 ≤ _; exact Int.le_refl _, by show _ ≤ (mBa 26 j).2; exact Int.le_refl _⟩)) (by decide) (by decide)), (mE_s hE (by decide) (by decide) (by decide) (by decide)), (mZ_a hZ rfl)⟩ (fun a_766 ea_766 hq => ?_)
      obtain ⟨hP, hD, hI, hE, hZ⟩ := hq
      refine lv_aload_n hx hb dX12_tells_90 rfl (lv_at hl 0 rfl) ?_
      refine va_get (D := D) (ci := 12) (v := .ref (r 26)) (C := RX12) (T := TX12) (N := 48) hx hb hg inC12 hown hK hP 0 rfl rfl 26 (by decide) (hg _ wt5_186) (fun _ h9 => h9) rfl dX12_tells_91 ?_
      refine lv_bipush (v := 6) hx hb dX12_tells_94 (by decide) ?_
      refine lv_aload_n hx hb dX12_tells_96 rfl (lv_at hl 0 rfl) ?_
      refine va_get (D := D) (ci := 12) (v := .ref (r 2)) (C := RX12) (T := TX12) (N := 48) hx hb hg inC12 hown hK hP 0 rfl rfl 2 (by decide) (hg _ wt5_162) (fun _ h9 => h9) rfl dX12_tells_97 ?_
      refine lv_bipush (v := 101) hx hb dX12_tells_100 (by decide) ?_
      refine va_iald hx hb hK hP 2 0 rfl rfl (kb_in kc_101 (by decide) (by decide)) dX12_tells_102 ?_
      refine lv_topi (fun t767 et767 => ?_)
      rw [cl_101] at et767
      refine va_iast hx hb hK hP hD hS 12 0 rfl rfl (kb_in kc_6 (by decide) (by decide)) dX12_tells_103 (fun H locs hP hD hS => ?_)
      rw [cl_6] at hP hD
      have hP : va_P D vwCl (mW K o r f (va_up a_766 26 (upd (a_766 26) 6 t767)) g) H := hP
      have hD : va_D A (mW K o r f (va_up a_766 26 (upd (a_766 26) 6 t767)) g) := hD
      refine k_gen (P := fun z => va_P D vwCl (mW K o r f z g) H ∧ va_D A (mW K o r f z g) ∧ (mI f z) ∧ (mE (XR []) f a f z) ∧ (mZ [22, 23, 24, 25] [26] f a f z)) (va_up a_766 26 (upd (a_766 26) 6 t767)) ⟨hP, hD, (mI_s hI (aI_free hI.2.1 26 _ (fun j => ⟨by show (mBa 26 j).1 ≤ _; exact Int.le_refl _, by show _ ≤ (mBa 26 j).2; exact Int.le_refl _⟩)) (by decide) (by decide)), (mE_s hE (by decide) (by decide) (by decide) (by decide)), (mZ_a hZ rfl)⟩ (fun a_768 ea_768 hq => ?_)
      obtain ⟨hP, hD, hI, hE, hZ⟩ := hq
      refine lv_aload_n hx hb dX12_tells_104 rfl (lv_at hl 0 rfl) ?_
      refine va_get (D := D) (ci := 12) (v := .ref (r 26)) (C := RX12) (T := TX12) (N := 48) hx hb hg inC12 hown hK hP 0 rfl rfl 26 (by decide) (hg _ wt5_186) (fun _ h9 => h9) rfl dX12_tells_105 ?_
      refine lv_bipush (v := 7) hx hb dX12_tells_108 (by decide) ?_
      refine lv_aload_n hx hb dX12_tells_110 rfl (lv_at hl 0 rfl) ?_
      refine va_get (D := D) (ci := 12) (v := .ref (r 2)) (C := RX12) (T := TX12) (N := 48) hx hb hg inC12 hown hK hP 0 rfl rfl 2 (by decide) (hg _ wt5_162) (fun _ h9 => h9) rfl dX12_tells_111 ?_
      refine lv_iconst (v := 0) hx hb dX12_tells_114 (by decide) ?_
      refine lv_iload_n hx hb dX12_tells_115 rfl (lv_at hl 3 rfl) ?_
      refine lv_iadd hx hb dX12_tells_116 ?_
      refine k_top (z := pt) (Int32.zero_add _) ?_
      refine va_iald hx hb hK hP 2 0 rfl rfl (kb_in bpt (by decide) (by decide)) dX12_tells_117 ?_
      refine lv_topi (fun t769 et769 => ?_)
      have b770 : kb 0 t769 99 := kb_eq et769 (aI_ld hI.2.1 2 0 10 bpt (by decide) (by decide) (by decide +kernel))
      refine va_iast hx hb hK hP hD hS 12 0 rfl rfl (kb_in kc_7 (by decide) (by decide)) dX12_tells_118 (fun H locs hP hD hS => ?_)
      rw [cl_7] at hP hD
      have hP : va_P D vwCl (mW K o r f (va_up a_768 26 (upd (a_768 26) 7 t769)) g) H := hP
      have hD : va_D A (mW K o r f (va_up a_768 26 (upd (a_768 26) 7 t769)) g) := hD
      refine k_gen (P := fun z => va_P D vwCl (mW K o r f z g) H ∧ va_D A (mW K o r f z g) ∧ (mI f z) ∧ (mE (XR []) f a f z) ∧ (mZ [22, 23, 24, 25] [26] f a f z)) (va_up a_768 26 (upd (a_768 26) 7 t769)) ⟨hP, hD, (mI_s hI (aI_free hI.2.1 26 _ (fun j => ⟨by show (mBa 26 j).1 ≤ _; exact Int.le_refl _, by show _ ≤ (mBa 26 j).2; exact Int.le_refl _⟩)) (by decide) (by decide)), (mE_s hE (by decide) (by decide) (by decide) (by decide)), (mZ_a hZ rfl)⟩ (fun a_771 ea_771 hq => ?_)
      obtain ⟨hP, hD, hI, hE, hZ⟩ := hq
      refine lv_aload_n hx hb dX12_tells_119 rfl (lv_at hl 0 rfl) ?_
      refine va_get (D := D) (ci := 12) (v := .ref (r 26)) (C := RX12) (T := TX12) (N := 48) hx hb hg inC12 hown hK hP 0 rfl rfl 26 (by decide) (hg _ wt5_186) (fun _ h9 => h9) rfl dX12_tells_120 ?_
      refine lv_bipush (v := 8) hx hb dX12_tells_123 (by decide) ?_
      refine lv_aload_n hx hb dX12_tells_125 rfl (lv_at hl 0 rfl) ?_
      refine va_get (D := D) (ci := 12) (v := .ref (r 2)) (C := RX12) (T := TX12) (N := 48) hx hb hg inC12 hown hK hP 0 rfl rfl 2 (by decide) (hg _ wt5_162) (fun _ h9 => h9) rfl dX12_tells_126 ?_
      refine lv_bipush (v := 10) hx hb dX12_tells_129 (by decide) ?_
      refine lv_iload_n hx hb dX12_tells_131 rfl (lv_at hl 2 rfl) ?_
      refine lv_iadd hx hb dX12_tells_132 ?_
      refine lv_topi (fun t772 et772 => ?_)
      have b773 : kb 10 t772 15 := kb_eq et772 (kb_add kc_10 bbd (by decide) (by decide))
      have qt772 : t772.toInt = 10 + bd.toInt := by rw [et772]; exact kt_cadd kc_10 bbd (by decide) (by decide)
      refine va_iald hx hb hK hP 2 0 rfl rfl (kb_in b773 (by decide) (by decide)) dX12_tells_133 ?_
      refine lv_topi (fun t774 et774 => ?_)
      have b775 : kb 0 t774 99 := kb_eq et774 (aI_ld hI.2.1 2 10 6 b773 (by decide) (by decide) (by decide +kernel))
      refine va_iast hx hb hK hP hD hS 12 0 rfl rfl (kb_in kc_8 (by decide) (by decide)) dX12_tells_134 (fun H locs hP hD hS => ?_)
      rw [cl_8] at hP hD
      have hP : va_P D vwCl (mW K o r f (va_up a_771 26 (upd (a_771 26) 8 t774)) g) H := hP
      have hD : va_D A (mW K o r f (va_up a_771 26 (upd (a_771 26) 8 t774)) g) := hD
      refine k_gen (P := fun z => va_P D vwCl (mW K o r f z g) H ∧ va_D A (mW K o r f z g) ∧ (mI f z) ∧ (mE (XR []) f a f z) ∧ (mZ [22, 23, 24, 25] [26] f a f z)) (va_up a_771 26 (upd (a_771 26) 8 t774)) ⟨hP, hD, (mI_s hI (aI_free hI.2.1 26 _ (fun j => ⟨by show (mBa 26 j).1 ≤ _; exact Int.le_refl _, by show _ ≤ (mBa 26 j).2; exact Int.le_refl _⟩)) (by decide) (by decide)), (mE_s hE (by decide) (by decide) (by decide) (by decide)), (mZ_a hZ rfl)⟩ (fun a_776 ea_776 hq => ?_)
      obtain ⟨hP, hD, hI, hE, hZ⟩ := hq
      refine lv_aload_n hx hb dX12_tells_135 rfl (lv_at hl 0 rfl) ?_
      refine va_get (D := D) (ci := 12) (v := .ref (r 26)) (C := RX12) (T := TX12) (N := 48) hx hb hg inC12 hown hK hP 0 rfl rfl 26 (by decide) (hg _ wt5_186) (fun _ h9 => h9) rfl dX12_tells_136 ?_
      refine lv_bipush (v := 9) hx hb dX12_tells_139 (by decide) ?_
      refine lv_aload_n hx hb dX12_tells_141 rfl (lv_at hl 0 rfl) ?_
      refine va_get (D := D) (ci := 12) (v := .ref (r 2)) (C := RX12) (T := TX12) (N := 48) hx hb hg inC12 hown hK hP 0 rfl rfl 2 (by decide) (hg _ wt5_162) (fun _ h9 => h9) rfl dX12_tells_142 ?_
      refine lv_bipush (v := 22) hx hb dX12_tells_145 (by decide) ?_
      refine va_iald hx hb hK hP 2 0 rfl rfl (kb_in kc_22 (by decide) (by decide)) dX12_tells_147 ?_
      refine lv_topi (fun t777 et777 => ?_)
      rw [cl_22] at et777
      refine va_iast hx hb hK hP hD hS 12 0 rfl rfl (kb_in kc_9 (by decide) (by decide)) dX12_tells_148 (fun H locs hP hD hS => ?_)
      rw [cl_9] at hP hD
      have hP : va_P D vwCl (mW K o r f (va_up a_776 26 (upd (a_776 26) 9 t777)) g) H := hP
      have hD : va_D A (mW K o r f (va_up a_776 26 (upd (a_776 26) 9 t777)) g) := hD
      refine k_gen (P := fun z => va_P D vwCl (mW K o r f z g) H ∧ va_D A (mW K o r f z g) ∧ (mI f z) ∧ (mE (XR []) f a f z) ∧ (mZ [22, 23, 24, 25] [26] f a f z)) (va_up a_776 26 (upd (a_776 26) 9 t777)) ⟨hP, hD, (mI_s hI (aI_free hI.2.1 26 _ (fun j => ⟨by show (mBa 26 j).1 ≤ _; exact Int.le_refl _, by show _ ≤ (mBa 26 j).2; exact Int.le_refl _⟩)) (by decide) (by decide)), (mE_s hE (by decide) (by decide) (by decide) (by decide)), (mZ_a hZ rfl)⟩ (fun a_778 ea_778 hq => ?_)
      obtain ⟨hP, hD, hI, hE, hZ⟩ := hq
      refine lv_aload_n hx hb dX12_tells_149 rfl (lv_at hl 0 rfl) ?_
      refine lv_iconst (v := 0) hx hb dX12_tells_150 (by decide) ?_
      refine va_put (D := D) (ci := 12) (v := .int 0) (ty := .boolean) (C := RX12) (T := TX12) (N := 48) hx hb hg inC12 tyX12 tyX12_ok nmX12 hown hK hP hD hS 0 rfl rfl 25 (by decide) (hg _ wt5_185) (fun _ h9 => h9) rfl (by decide +kernel) rfl rfl (Nat.le_of_ble_eq_true rfl) dX12_tells_151 (fun H locs hP hD hS => ?_)
      have hP : va_P D vwCl (mW K o r (upd f 25 0) a_778 g) H := hP
      have hD : va_D A (mW K o r (upd f 25 0) a_778 g) := hD
      refine k_gen (P := fun z => va_P D vwCl (mW K o r z a_778 g) H ∧ va_D A (mW K o r z a_778 g) ∧ (mI z a_778) ∧ (mE (XR []) f a z a_778) ∧ (mZ [22, 23, 24, 25] [26] f a z a_778)) (upd f 25 0) ⟨hP, hD, (mI_f hI (fI_st hI.1 25 kc_0 (by decide) (by decide))), (mE_f hE (by decide)), (mZ_f hZ rfl)⟩ (fun f_779 ef_779 hq => ?_)
      obtain ⟨hP, hD, hI, hE, hZ⟩ := hq
      refine lv_iload hx hb dX12_tells_154 (lv_at hl 5 rfl) ?_
      refine lv_i2l hx hb dX12_tells_156 rfl ?_
      refine lv_topl (fun t780 et780 => ?_)
      have b781 : kbl 0 t780 20 := kbl_eq et780 (kbl_i2l bwo)
      refine lv_lstore (lv' := [(6, .long t780), (0, .ref o), (1, .int hd), (2, .int bd), (3, .int pt), (4, .int hi), (5, .int wo)]) hx hb dX12_tells_157 hl (by decide) rfl (fun ls hl => ?_)
      refine lv_aload_n hx hb dX12_tells_159 rfl (lv_at hl 1 rfl) ?_
      refine lv_sipush (v := 400) hx hb dX12_tells_160 (by decide) ?_
      refine lv_aload_n hx hb dX12_tells_163 rfl (lv_at hl 1 rfl) ?_
      refine va_get (D := D) (ci := 12) (v := .ref (r 2)) (C := RX12) (T := TX12) (N := 48) hx hb hg inC12 hown hK hP 0 rfl rfl 2 (by decide) (hg _ wt5_162) (fun _ h9 => h9) rfl dX12_tells_164 ?_
      refine lv_bipush (v := 106) hx hb dX12_tells_167 (by decide) ?_
      refine va_iald hx hb hK hP 2 0 rfl rfl (kb_in kc_106 (by decide) (by decide)) dX12_tells_169 ?_
      refine k_top (z := t1) (by rw [cl_106]; exact ((show a_778 2 106 = a_776 2 106 from kn7_u2 ea_778 rfl).trans ((show a_776 2 106 = a_771 2 106 from kn7_u2 ea_776 rfl).trans ((show a_771 2 106 = a_768 2 106 from kn7_u2 ea_771 rfl).trans ((show a_768 2 106 = a_766 2 106 from kn7_u2 ea_768 rfl).trans ((show a_766 2 106 = a_762 2 106 from kn7_u2 ea_766 rfl).trans ((show a_762 2 106 = a_758 2 106 from kn7_u2 ea_762 rfl).trans ((show a_758 2 106 = a_11 2 106 from kn7_u2 ea_758 rfl).trans ((show a_11 2 106 = a_10 2 106 from kn7_u2 ea_11 rfl).trans ((show a_10 2 106 = a_5 2 106 from kn7_u2 ea_10 rfl).trans ((show a_5 2 106 = a 2 106 from kn7_u2 ea_5 rfl).trans et1.symm))))))))))) ?_
      refine lv_imul hx hb dX12_tells_170 ?_
      refine lv_topi (fun t782 et782 => ?_)
      have b783 : kb 0 t782 2000 := kb_eq et782 (kb_mul kc_400 b4 (by decide) (by decide) (by decide))
      have qt782 : t782.toInt = 400 * t1.toInt := by rw [et782]; exact kt_cmul kc_400 b4 (by decide) (by decide) (by decide)
      refine va_put (D := D) (ci := 12) (v := .int t782) (ty := .int) (C := RX12) (T := TX12) (N := 48) hx hb hg inC12 tyX12 tyX12_ok nmX12 hown hK hP hD hS 0 rfl rfl 22 (by decide) (hg _ wt5_182) (fun _ h9 => h9) rfl (by decide +kernel) rfl rfl (Nat.le_of_ble_eq_true rfl) dX12_tells_171 (fun H locs hP hD hS => ?_)
      have hP : va_P D vwCl (mW K o r (upd f_779 22 t782) a_778 g) H := hP
      have hD : va_D A (mW K o r (upd f_779 22 t782) a_778 g) := hD
      refine k_gen (P := fun z => va_P D vwCl (mW K o r z a_778 g) H ∧ va_D A (mW K o r z a_778 g) ∧ (mI z a_778) ∧ (mE (XR []) f a z a_778) ∧ (mZ [22, 23, 24, 25] [26] f a z a_778)) (upd f_779 22 t782) ⟨hP, hD, (mI_f hI (fI_st hI.1 22 (kb_any _) (by decide) (by decide))), (mE_f hE (by decide)), (mZ_f hZ rfl)⟩ (fun f_784 ef_784 hq => ?_)
      obtain ⟨hP, hD, hI, hE, hZ⟩ := hq
      refine lv_aload_n hx hb dX12_tells_174 rfl (lv_at hl 1 rfl) ?_
      refine lv_aload_n hx hb dX12_tells_175 rfl (lv_at hl 1 rfl) ?_
      refine va_get (D := D) (ci := 12) (v := .int (f_784 22)) (C := RX12) (T := TX12) (N := 48) hx hb hg inC12 hown hK hP 0 rfl rfl 22 (by decide) (hg _ wt5_182) (fun _ h9 => h9) rfl dX12_tells_176 ?_
      refine k_top (z := t782) (show f_784 22 = t782 from kn7_u1 ef_784 rfl) ?_
      refine lv_aload_n hx hb dX12_tells_179 rfl (lv_at hl 1 rfl) ?_
      refine va_get (D := D) (ci := 12) (v := .ref (r 2)) (C := RX12) (T := TX12) (N := 48) hx hb hg inC12 hown hK hP 0 rfl rfl 2 (by decide) (hg _ wt5_162) (fun _ h9 => h9) rfl dX12_tells_180 ?_
      refine lv_bipush (v := 107) hx hb dX12_tells_183 (by decide) ?_
      refine lv_aload_n hx hb dX12_tells_185 rfl (lv_at hl 1 rfl) ?_
      refine va_get (D := D) (ci := 12) (v := .ref (r 2)) (C := RX12) (T := TX12) (N := 48) hx hb hg inC12 hown hK hP 0 rfl rfl 2 (by decide) (hg _ wt5_162) (fun _ h9 => h9) rfl dX12_tells_186 ?_
      refine lv_bipush (v := 106) hx hb dX12_tells_189 (by decide) ?_
      refine va_iald hx hb hK hP 2 0 rfl rfl (kb_in kc_106 (by decide) (by decide)) dX12_tells_191 ?_
      refine k_top (z := t1) (by rw [cl_106]; exact ((show a_778 2 106 = a_776 2 106 from kn7_u2 ea_778 rfl).trans ((show a_776 2 106 = a_771 2 106 from kn7_u2 ea_776 rfl).trans ((show a_771 2 106 = a_768 2 106 from kn7_u2 ea_771 rfl).trans ((show a_768 2 106 = a_766 2 106 from kn7_u2 ea_768 rfl).trans ((show a_766 2 106 = a_762 2 106 from kn7_u2 ea_766 rfl).trans ((show a_762 2 106 = a_758 2 106 from kn7_u2 ea_762 rfl).trans ((show a_758 2 106 = a_11 2 106 from kn7_u2 ea_758 rfl).trans ((show a_11 2 106 = a_10 2 106 from kn7_u2 ea_11 rfl).trans ((show a_10 2 106 = a_5 2 106 from kn7_u2 ea_10 rfl).trans ((show a_5 2 106 = a 2 106 from kn7_u2 ea_5 rfl).trans et1.symm))))))))))) ?_
      refine lv_iadd hx hb dX12_tells_192 ?_
      refine lv_topi (fun t785 et785 => ?_)
      have b786 : kb 107 t785 112 := kb_eq et785 (kb_add kc_107 b4 (by decide) (by decide))
      have qt785 : t785.toInt = 107 + t1.toInt := by rw [et785]; exact kt_cadd kc_107 b4 (by decide) (by decide)
      refine va_iald hx hb hK hP 2 0 rfl rfl (kb_in b786 (by decide) (by decide)) dX12_tells_193 ?_
      refine lv_topi (fun t787 et787 => ?_)
      have b788 : kb 0 t787 400 := kb_eq et787 (aI_ld hI.2.1 2 107 6 b786 (by decide) (by decide) (by decide +kernel))
      refine lv_iadd hx hb dX12_tells_194 ?_
      refine lv_topi (fun t789 et789 => ?_)
      have b790 : kb 0 t789 2400 := kb_eq et789 (kb_add b783 b788 (by decide) (by decide))
      have qt789 : t789.toInt = t782.toInt + t787.toInt := by rw [et789]; exact kt_add b783 b788 (by decide) (by decide)
      refine va_put (D := D) (ci := 12) (v := .int t789) (ty := .int) (C := RX12) (T := TX12) (N := 48) hx hb hg inC12 tyX12 tyX12_ok nmX12 hown hK hP hD hS 0 rfl rfl 23 (by decide) (hg _ wt5_183) (fun _ h9 => h9) rfl (by decide +kernel) rfl rfl (Nat.le_of_ble_eq_true rfl) dX12_tells_195 (fun H locs hP hD hS => ?_)
      have hP : va_P D vwCl (mW K o r (upd f_784 23 t789) a_778 g) H := hP
      have hD : va_D A (mW K o r (upd f_784 23 t789) a_778 g) := hD
      refine k_gen (P := fun z => va_P D vwCl (mW K o r z a_778 g) H ∧ va_D A (mW K o r z a_778 g) ∧ (mI z a_778) ∧ (mE (XR []) f a z a_778) ∧ (mZ [22, 23, 24, 25] [26] f a z a_778)) (upd f_784 23 t789) ⟨hP, hD, (mI_f hI (fI_st hI.1 23 (kb_any _) (by decide) (by decide))), (mE_f hE (by decide)), (mZ_f hZ rfl)⟩ (fun f_791 ef_791 hq => ?_)
      obtain ⟨hP, hD, hI, hE, hZ⟩ := hq
      have hA2 : a_778 2 = a 2 := ((((((((((show a_778 2 = a_776 2 from by rw [← ea_778]; rfl).trans (show a_776 2 = a_771 2 from by rw [← ea_776]; rfl)).trans (show a_771 2 = a_768 2 from by rw [← ea_771]; rfl)).trans (show a_768 2 = a_766 2 from by rw [← ea_768]; rfl)).trans (show a_766 2 = a_762 2 from by rw [← ea_766]; rfl)).trans (show a_762 2 = a_758 2 from by rw [← ea_762]; rfl)).trans (show a_758 2 = a_11 2 from by rw [← ea_758]; rfl)).trans (show a_11 2 = a_10 2 from by rw [← ea_11]; rfl)).trans (show a_10 2 = a_5 2 from by rw [← ea_10]; rfl)).trans (show a_5 2 = a 2 from by rw [← ea_5]; rfl))
      have hfv : t1 = a 2 106 := by rw [← hA2]; exact (((show a_778 2 106 = a_776 2 106 from kn7_u2 ea_778 rfl).trans ((show a_776 2 106 = a_771 2 106 from kn7_u2 ea_776 rfl).trans ((show a_771 2 106 = a_768 2 106 from kn7_u2 ea_771 rfl).trans ((show a_768 2 106 = a_766 2 106 from kn7_u2 ea_768 rfl).trans ((show a_766 2 106 = a_762 2 106 from kn7_u2 ea_766 rfl).trans ((show a_762 2 106 = a_758 2 106 from kn7_u2 ea_762 rfl).trans ((show a_758 2 106 = a_11 2 106 from kn7_u2 ea_758 rfl).trans ((show a_11 2 106 = a_10 2 106 from kn7_u2 ea_11 rfl).trans ((show a_10 2 106 = a_5 2 106 from kn7_u2 ea_10 rfl).trans ((show a_5 2 106 = a 2 106 from kn7_u2 ea_5 rfl).trans et1.symm))))))))))).symm
      obtain ⟨t, ht⟩ : ∃ t : Nat, (t : Int) = t1.toInt := ⟨t1.toInt.toNat, by have h1 := (b4).1; omega⟩
      have ht6 : t < 6 := by have h1 := (b4).2; omega
      have htn : (a 2 106).toInt.toNat = t := by rw [← hfv]; omega
      have hix : t785.toNatClampNeg = 107 + t := by have h1 := kb_cl b786 (by decide); omega
      have hsz : a_778 2 (107 + t) = t787 := by rw [← hix]; exact et787.symm
      have hk0 : eS f_791 a_778 t false := ⟨by omega, by rw [(show f_791 23 = t789 from kn7_u1 ef_791 rfl), hsz, qt789, qt782]; omega, ((show f_791 25 = f_784 25 from kn7_u1 ef_791 rfl).trans ((show f_784 25 = f_779 25 from kn7_u1 ef_784 rfl).trans (show f_779 25 = 0 from kn7_u1 ef_779 rfl))), by rw [hsz]; exact (b788).1, by rw [hsz]; exact (b788).2⟩
      have hg0 : t782.toInt = 400 * (t : Int) + ((0 : Nat) : Int) := by rw [qt782]; omega
      obtain ⟨T, hTq, hTx⟩ := hp1 t (by have w1 := hp0.2.2; rw [← hfv] at w1; omega)
      rw [← htn] at hTx
      obtain ⟨S, hSz⟩ : ∃ S : Nat, (S : Int) = (a_778 2 (107 + t)).toInt := ⟨(a_778 2 (107 + t)).toInt.toNat, by have h1 := hk0.2.2.2.1; omega⟩
      have hp2 : tQ (a_778 2) t T := by rw [hA2]; exact hTq
      have hTx : txE false T S (DD (a 2 106).toInt.toNat) := by have w1 := hTx; rw [htn, ← hA2, show (a_778 2 (107 + t)).toInt.toNat = S by omega] at w1; rw [htn]; exact w1
      have hlw : ∀ c, 9 ≤ c → c ≤ 18 → (a_778 26 (c - 9)).toInt = (lwW (a 2) bd pt) (wIx false (mpL.getD c 0) 0) := by
        intro c h1 h2
        rcases (show c = 9 ∨ c = 10 ∨ c = 11 ∨ c = 12 ∨ c = 13 ∨ c = 14 ∨ c = 15 ∨ c = 16 ∨ c = 17 ∨ c = 18 by omega) with e | e | e | e | e | e | e | e | e | e
        · rw [e, show wIx false (mpL.getD 9 0) 0 = 0 from by decide +kernel]; show (a_778 26 0).toInt = _; rw [((show a_778 26 0 = a_776 26 0 from kn7_u2 ea_778 rfl).trans ((show a_776 26 0 = a_771 26 0 from kn7_u2 ea_776 rfl).trans ((show a_771 26 0 = a_768 26 0 from kn7_u2 ea_771 rfl).trans ((show a_768 26 0 = a_766 26 0 from kn7_u2 ea_768 rfl).trans ((show a_766 26 0 = a_762 26 0 from kn7_u2 ea_766 rfl).trans ((show a_762 26 0 = a_758 26 0 from kn7_u2 ea_762 rfl).trans ((show a_758 26 0 = a_11 26 0 from kn7_u2 ea_758 rfl).trans ((show a_11 26 0 = a_10 26 0 from kn7_u2 ea_11 rfl).trans ((show a_10 26 0 = a_5 26 0 from kn7_u2 ea_10 rfl).trans (show a_5 26 0 = bd from by rw [← ea_5]; exact (pk_us (f := a 26) (k := 0) (x := bd))))))))))))]; exact rfl
        · rw [e, show wIx false (mpL.getD 10 0) 0 = 1 from by decide +kernel]; show (a_778 26 1).toInt = _; rw [((show a_778 26 1 = a_776 26 1 from kn7_u2 ea_778 rfl).trans ((show a_776 26 1 = a_771 26 1 from kn7_u2 ea_776 rfl).trans ((show a_771 26 1 = a_768 26 1 from kn7_u2 ea_771 rfl).trans ((show a_768 26 1 = a_766 26 1 from kn7_u2 ea_768 rfl).trans ((show a_766 26 1 = a_762 26 1 from kn7_u2 ea_766 rfl).trans ((show a_762 26 1 = a_758 26 1 from kn7_u2 ea_762 rfl).trans ((show a_758 26 1 = a_11 26 1 from kn7_u2 ea_758 rfl).trans ((show a_11 26 1 = a_10 26 1 from kn7_u2 ea_11 rfl).trans (show a_10 26 1 = t8 from by rw [← ea_10]; exact (pk_us (f := a_5 26) (k := 1) (x := t8)))))))))))]; exact (congrArg Int32.toInt (show t8 = a 2 (69 + bd.toNatClampNeg) from (et8).trans ((congrFun (show a_5 2 = a 2 from (show a_5 2 = a 2 from by rw [← ea_5]; rfl)) _).trans (congrArg (a 2) (show t6.toNatClampNeg = _ from by have w1 := qt6; have w2 := (bbd).1; unfold Int32.toNatClampNeg; omega)))))
        · rw [e, show wIx false (mpL.getD 11 0) 0 = 3 from by decide +kernel]; show (a_778 26 2).toInt = _; rw [((show a_778 26 2 = a_776 26 2 from kn7_u2 ea_778 rfl).trans ((show a_776 26 2 = a_771 26 2 from kn7_u2 ea_776 rfl).trans ((show a_771 26 2 = a_768 26 2 from kn7_u2 ea_771 rfl).trans ((show a_768 26 2 = a_766 26 2 from kn7_u2 ea_768 rfl).trans ((show a_766 26 2 = a_762 26 2 from kn7_u2 ea_766 rfl).trans ((show a_762 26 2 = a_758 26 2 from kn7_u2 ea_762 rfl).trans ((show a_758 26 2 = a_11 26 2 from kn7_u2 ea_758 rfl).trans (show a_11 26 2 = pt from by rw [← ea_11]; exact (pk_us (f := a_10 26) (k := 2) (x := pt))))))))))]; exact rfl
        · rw [e, show wIx false (mpL.getD 12 0) 0 = 4 from by decide +kernel]; show (a_778 26 3).toInt = _; rw [((show a_778 26 3 = a_776 26 3 from kn7_u2 ea_778 rfl).trans ((show a_776 26 3 = a_771 26 3 from kn7_u2 ea_776 rfl).trans ((show a_771 26 3 = a_768 26 3 from kn7_u2 ea_771 rfl).trans ((show a_768 26 3 = a_766 26 3 from kn7_u2 ea_768 rfl).trans ((show a_766 26 3 = a_762 26 3 from kn7_u2 ea_766 rfl).trans ((show a_762 26 3 = a_758 26 3 from kn7_u2 ea_762 rfl).trans (show a_758 26 3 = 1 from by rw [← ea_758]; exact (pk_us (f := a_11 26) (k := 3) (x := 1)))))))))]; exact (show (1 : Int32).toInt = (crB (a 2) bd.toNatClampNeg pt.toNatClampNeg).toInt from by rw [bit_y (show v13 = (if crB (a 2) bd.toNatClampNeg pt.toNatClampNeg = 1 then 1 else 0) from by have w9 := hw12.2; rw [show a_11 2 = a 2 from (((show a_11 2 = a_10 2 from by rw [← ea_11]; rfl).trans (show a_10 2 = a_5 2 from by rw [← ea_10]; rfl)).trans (show a_5 2 = a 2 from by rw [← ea_5]; rfl))] at w9; exact w9) c15])
        · rw [e, show wIx false (mpL.getD 13 0) 0 = 5 from by decide +kernel]; show (a_778 26 4).toInt = _; rw [((show a_778 26 4 = a_776 26 4 from kn7_u2 ea_778 rfl).trans ((show a_776 26 4 = a_771 26 4 from kn7_u2 ea_776 rfl).trans ((show a_771 26 4 = a_768 26 4 from kn7_u2 ea_771 rfl).trans ((show a_768 26 4 = a_766 26 4 from kn7_u2 ea_768 rfl).trans ((show a_766 26 4 = a_762 26 4 from kn7_u2 ea_766 rfl).trans (show a_762 26 4 = t761 from by rw [← ea_762]; exact (pk_us (f := a_758 26) (k := 4) (x := t761))))))))]; exact (congrArg Int32.toInt (show t761 = a 2 (53 + pt.toNatClampNeg) from (et761).trans ((congrFun (show a_758 2 = a 2 from ((((show a_758 2 = a_11 2 from by rw [← ea_758]; rfl).trans (show a_11 2 = a_10 2 from by rw [← ea_11]; rfl)).trans (show a_10 2 = a_5 2 from by rw [← ea_10]; rfl)).trans (show a_5 2 = a 2 from by rw [← ea_5]; rfl))) _).trans (congrArg (a 2) (show t759.toNatClampNeg = _ from by have w1 := qt759; have w2 := (bpt).1; unfold Int32.toNatClampNeg; omega)))))
        · rw [e, show wIx false (mpL.getD 14 0) 0 = 7 from by decide +kernel]; show (a_778 26 5).toInt = _; rw [((show a_778 26 5 = a_776 26 5 from kn7_u2 ea_778 rfl).trans ((show a_776 26 5 = a_771 26 5 from kn7_u2 ea_776 rfl).trans ((show a_771 26 5 = a_768 26 5 from kn7_u2 ea_771 rfl).trans ((show a_768 26 5 = a_766 26 5 from kn7_u2 ea_768 rfl).trans (show a_766 26 5 = v764 from by rw [← ea_766]; exact (pk_us (f := a_762 26) (k := 5) (x := v764)))))))]; exact (by have w9 := hw763.2; rw [show a_762 2 = a 2 from (((((show a_762 2 = a_758 2 from by rw [← ea_762]; rfl).trans (show a_758 2 = a_11 2 from by rw [← ea_758]; rfl)).trans (show a_11 2 = a_10 2 from by rw [← ea_11]; rfl)).trans (show a_10 2 = a_5 2 from by rw [← ea_10]; rfl)).trans (show a_5 2 = a 2 from by rw [← ea_5]; rfl))] at w9; exact w9)
        · rw [e, show wIx false (mpL.getD 15 0) 0 = 9 from by decide +kernel]; show (a_778 26 6).toInt = _; rw [((show a_778 26 6 = a_776 26 6 from kn7_u2 ea_778 rfl).trans ((show a_776 26 6 = a_771 26 6 from kn7_u2 ea_776 rfl).trans ((show a_771 26 6 = a_768 26 6 from kn7_u2 ea_771 rfl).trans (show a_768 26 6 = t767 from by rw [← ea_768]; exact (pk_us (f := a_766 26) (k := 6) (x := t767))))))]; exact (congrArg Int32.toInt (et767.trans (congrFun (show a_766 2 = a 2 from ((((((show a_766 2 = a_762 2 from by rw [← ea_766]; rfl).trans (show a_762 2 = a_758 2 from by rw [← ea_762]; rfl)).trans (show a_758 2 = a_11 2 from by rw [← ea_758]; rfl)).trans (show a_11 2 = a_10 2 from by rw [← ea_11]; rfl)).trans (show a_10 2 = a_5 2 from by rw [← ea_10]; rfl)).trans (show a_5 2 = a 2 from by rw [← ea_5]; rfl))) 101)))
        · rw [e, show wIx false (mpL.getD 16 0) 0 = 6 from by decide +kernel]; show (a_778 26 7).toInt = _; rw [((show a_778 26 7 = a_776 26 7 from kn7_u2 ea_778 rfl).trans ((show a_776 26 7 = a_771 26 7 from kn7_u2 ea_776 rfl).trans (show a_771 26 7 = t769 from by rw [← ea_771]; exact (pk_us (f := a_768 26) (k := 7) (x := t769)))))]; exact (congrArg Int32.toInt (show t769 = a 2 (0 + pt.toNatClampNeg) from (et769).trans ((congrFun (show a_768 2 = a 2 from (((((((show a_768 2 = a_766 2 from by rw [← ea_768]; rfl).trans (show a_766 2 = a_762 2 from by rw [← ea_766]; rfl)).trans (show a_762 2 = a_758 2 from by rw [← ea_762]; rfl)).trans (show a_758 2 = a_11 2 from by rw [← ea_758]; rfl)).trans (show a_11 2 = a_10 2 from by rw [← ea_11]; rfl)).trans (show a_10 2 = a_5 2 from by rw [← ea_10]; rfl)).trans (show a_5 2 = a 2 from by rw [← ea_5]; rfl))) _).trans (congrArg (a 2) (Nat.zero_add _).symm))))
        · rw [e, show wIx false (mpL.getD 17 0) 0 = 2 from by decide +kernel]; show (a_778 26 8).toInt = _; rw [((show a_778 26 8 = a_776 26 8 from kn7_u2 ea_778 rfl).trans (show a_776 26 8 = t774 from by rw [← ea_776]; exact (pk_us (f := a_771 26) (k := 8) (x := t774))))]; exact (congrArg Int32.toInt (show t774 = a 2 (10 + bd.toNatClampNeg) from (et774).trans ((congrFun (show a_771 2 = a 2 from ((((((((show a_771 2 = a_768 2 from by rw [← ea_771]; rfl).trans (show a_768 2 = a_766 2 from by rw [← ea_768]; rfl)).trans (show a_766 2 = a_762 2 from by rw [← ea_766]; rfl)).trans (show a_762 2 = a_758 2 from by rw [← ea_762]; rfl)).trans (show a_758 2 = a_11 2 from by rw [← ea_758]; rfl)).trans (show a_11 2 = a_10 2 from by rw [← ea_11]; rfl)).trans (show a_10 2 = a_5 2 from by rw [← ea_10]; rfl)).trans (show a_5 2 = a 2 from by rw [← ea_5]; rfl))) _).trans (congrArg (a 2) (show t772.toNatClampNeg = _ from by have w1 := qt772; have w2 := (bbd).1; unfold Int32.toNatClampNeg; omega)))))
        · rw [e, show wIx false (mpL.getD 18 0) 0 = 8 from by decide +kernel]; show (a_778 26 9).toInt = _; rw [(show a_778 26 9 = t777 from by rw [← ea_778]; exact (pk_us (f := a_776 26) (k := 9) (x := t777)))]; exact (congrArg Int32.toInt (et777.trans (congrFun (show a_776 2 = a 2 from (((((((((show a_776 2 = a_771 2 from by rw [← ea_776]; rfl).trans (show a_771 2 = a_768 2 from by rw [← ea_771]; rfl)).trans (show a_768 2 = a_766 2 from by rw [← ea_768]; rfl)).trans (show a_766 2 = a_762 2 from by rw [← ea_766]; rfl)).trans (show a_762 2 = a_758 2 from by rw [← ea_762]; rfl)).trans (show a_758 2 = a_11 2 from by rw [← ea_758]; rfl)).trans (show a_11 2 = a_10 2 from by rw [← ea_11]; rfl)).trans (show a_10 2 = a_5 2 from by rw [← ea_10]; rfl)).trans (show a_5 2 = a 2 from by rw [← ea_5]; rfl))) 22)))
      have hwb : wB (lwW (a 2) bd pt) := lwW_b hp0 bbd bpt
      have hp3 : ∀ F, wQ false (lwW (a 2) bd pt) F a_778 := fun F => ⟨hwb, fun _ => hlw, fun q => absurd q (by decide)⟩
      have lp794 : ∀ (n795 : Nat) (i : Nat) (cc : Nat) (F793 : Nat → Int32) (H : Heap) (locs : List Loc) (ls : Array Slot) (y792 : Int64), ((DD (a 2 106).toInt.toNat).1 < cc + n795) → (mI F793 a_778) → (mE (XR []) f a F793 a_778) → (mZ [22, 23, 24, 25] [26] f a F793 a_778) → (eS F793 a_778 t false) → (kbl 0 y792 20) → ((F793 22).toInt = 400 * (t : Int) + (i : Int)) → ((cc < (DD (a 2 106).toInt.toNat).1 ∧ i = (DD (a 2 106).toInt.toNat).2.1 cc) ∨ (cc = (DD (a 2 106).toInt.toNat).1 ∧ S ≤ i)) → (y792.toInt = lastOf (clT (DD (a 2 106).toInt.toNat) (kHd (hd.toInt.toNat - 1)) (lwW (a 2) bd pt) hi.toInt) wo.toInt cc) → (cc ≤ (DD (a 2 106).toInt.toNat).1) → va_P D vwCl (mW K o r F793 a_778 g) H → va_D A (mW K o r F793 a_778 g) → va_S A s.heap H locs → lv_has ls 13 [(6, .long y792), (0, .ref o), (1, .int hd), (2, .int bd), (3, .int pt), (4, .int hi), (5, .int wo)] → W p l e (rmD 48 0 0) s m ([.ref o, .int hd, .int bd, .int pt, .int hi, .int wo] : List Value).toArray below meth c H locs 0 0 (kQi D (tysK K) (fun v (u : mS) => kb 0 v 20 ∧ mI u.1 u.2.1 ∧ mE (XR []) f a u.1 u.2.1 ∧ v.toInt = tlF DD (a 2) (hd.toInt.toNat - 1) bd pt hi.toInt wo.toInt ∧ mZ [22, 23, 24, 25] [26] f a u.1 u.2.1) (fun u => mW K o r u.1 u.2.1 u.2.2) A below ([.ref o, .int hd, .int bd, .int pt, .int hi, .int wo] : List Value).toArray s 0 0) (F0 m 198 ls []) := by
        intro n795
        induction n795 with
        | zero =>
          intro i cc F793  H locs ls y792 hmlp794 hI hE hZ hk0 b796 hvlp794_0 hvlp794_1 hvlp794_2 hvlp794_3 hP hD hS hl
          exact (by have h1 := hmlp794; have h2 := hvlp794_3; omega : False).elim
        | succ n795 ihlp794 =>
          intro i cc F793  H locs ls y792 hmlp794 hI hE hZ hk0 b796 hvlp794_0 hvlp794_1 hvlp794_2 hvlp794_3 hP hD hS hl
          obtain ⟨gv797, egv797⟩ : ∃ z : Int32, z = F793 22 := ⟨_, rfl⟩
          have hg798 : gv797.toInt = 400 * (t : Int) + ((i : Nat) : Int) := by rw [egv797]; exact hvlp794_0
          have hcln := hvlp794_3
          have htd := hvlp794_2
          rcases hvlp794_1 with hcs | hcs
          · obtain ⟨jj, hcl, hnx⟩ := hTx.2.2.2 cc hcs.1
            rw [← hcs.2] at hcl
            obtain ⟨hhd, hcl⟩ := hcl
            rw [if_neg (by decide)] at hcl
            obtain ⟨-, -, hcl⟩ := hcl
            have hjS : jj ≤ S := by rcases hnx with ⟨_, w1, _⟩ | ⟨_, w1⟩; (have w2 := mC_lS hk0 (ne_0 (tq_y hp2 (x := 159) (y := 3059) (by decide +kernel) (by decide +kernel) w1) (by decide +kernel)); omega); omega
            rcases hcl with ⟨h1 | h1 | h1, mm, hs, hif⟩ | ⟨h1, hb1, hif⟩
            · have b799 : kb 0 gv797 2799 := kb_go hk0 (mC_lt hk0 (ne_0 (tq_y hp2 (x := 1) (y := 2004) (by decide +kernel) (by decide +kernel) h1) (by decide +kernel))) hg798
              have hhk : (DD (a 2 106).toInt.toNat).2.2.1 cc = kHd 0 := hhd.trans (h1.trans (by decide +kernel))
              rcases hif with ⟨h2, h3⟩ | ⟨h2, hj, hv3⟩
              · refine lv_aload_n hx hb dX12_tells_198 rfl (lv_at hl 1 rfl) ?_
                refine va_get (D := D) (ci := 12) (v := .int (F793 22)) (C := RX12) (T := TX12) (N := 48) hx hb hg inC12 hown hK hP 0 rfl rfl 22 (by decide) (hg _ wt5_182) (fun _ h9 => h9) rfl dX12_tells_199 ?_
                refine k_top (z := gv797) egv797.symm ?_
                refine lv_aload_n hx hb dX12_tells_202 rfl (lv_at hl 1 rfl) ?_
                refine va_get (D := D) (ci := 12) (v := .int (F793 23)) (C := RX12) (T := TX12) (N := 48) hx hb hg inC12 hown hK hP 0 rfl rfl 23 (by decide) (hg _ wt5_183) (fun _ h9 => h9) rfl dX12_tells_203 ?_
                refine lv_topi (fun t800 et800 => ?_)
                refine lv_icmp_ge (tgt := 351) hx hb dX12_tells_206 (by decide) (fun c801 => ?_) (fun c801 => ?_)
                · exact absurd (kc_le c801) (by have w1 := congrArg Int32.toInt et800.symm; have w2 := hk0.2.1; have w3 := hg798; have w4 := mC_lS hk0 (ne_0 (tq_y hp2 (x := 1) (y := 2004) (by decide +kernel) (by decide +kernel) h1) (by decide +kernel)); omega)
                · have h802 := (kc_nle c801)
                  have b803 : kb 1 t800 2147483647 := kr_lt2 h802 b799 (kb_any t800) (by decide)
                  refine lv_aload_n hx hb dX12_tells_209 rfl (lv_at hl 1 rfl) ?_
                  refine lv_aload_n hx hb dX12_tells_210 rfl (lv_at hl 1 rfl) ?_
                  refine va_get (D := D) (ci := 12) (v := .int (F793 22)) (C := RX12) (T := TX12) (N := 48) hx hb hg inC12 hown hK hP 0 rfl rfl 22 (by decide) (hg _ wt5_182) (fun _ h9 => h9) rfl dX12_tells_211 ?_
                  refine k_top (z := gv797) egv797.symm ?_
                  refine kI.callV (As := [.int gv797]) (rest := []) ⟨hx, hb, hml, hown, hg⟩ (m_codeAt l o r F793 a_778 g hI gv797  t (i) false hk0 hg798) (cwV 1 hg (kgV wt7_47 wt7_49 wp5_8 wt1_14 wt7_50) rfl rfl rfl (by decide +kernel) ⟨by decide, by decide⟩) hK hP hD hS hA mIs [] rfl (wr := []) rfl rfl rfl (fun i h => by cases h) 0 12 rfl rfl rfl hl.1 rfl (Nat.le_of_ble_eq_true rfl) dX12_tells_214 ⟨Nat.le_refl _, Nat.le_refl _⟩ (fun v805 u806 H locs hw804 hP hD hS => ?_)
                  have hP : va_P D vwCl (mW K o r F793 a_778 g) H := hP
                  have hD : va_D A (mW K o r F793 a_778 g) := hD
                  refine k_top (z := 1) (hw804.2.trans (tq_y hp2 (x := 1) (y := 2004) (by decide +kernel) (by decide +kernel) h1)) ?_
                  refine lv_istore (lv' := [(8, .int 1), (6, .long y792), (0, .ref o), (1, .int hd), (2, .int bd), (3, .int pt), (4, .int hi), (5, .int wo)]) hx hb dX12_tells_217 hl (by decide) rfl (fun ls hl => ?_)
                  refine lv_aload_n hx hb dX12_tells_219 rfl (lv_at hl 2 rfl) ?_
                  refine lv_iconst (v := 0) hx hb dX12_tells_220 (by decide) ?_
                  refine va_put (D := D) (ci := 12) (v := .int 0) (ty := .boolean) (C := RX12) (T := TX12) (N := 48) hx hb hg inC12 tyX12 tyX12_ok nmX12 hown hK hP hD hS 0 rfl rfl 24 (by decide) (hg _ wt5_184) (fun _ h9 => h9) rfl (by decide +kernel) rfl rfl (Nat.le_of_ble_eq_true rfl) dX12_tells_221 (fun H locs hP hD hS => ?_)
                  have hP : va_P D vwCl (mW K o r (upd F793 24 0) a_778 g) H := hP
                  have hD : va_D A (mW K o r (upd F793 24 0) a_778 g) := hD
                  refine k_gen (P := fun z => va_P D vwCl (mW K o r z a_778 g) H ∧ va_D A (mW K o r z a_778 g) ∧ (mI z a_778) ∧ (mE (XR []) f a z a_778) ∧ (mZ [22, 23, 24, 25] [26] f a z a_778) ∧ (eS z a_778 t false)) (upd F793 24 0) ⟨hP, hD, (mI_f hI (fI_st hI.1 24 kc_0 (by decide) (by decide))), (mE_f hE (by decide)), (mZ_f hZ rfl), (eS_f hk0 (by decide) (by decide))⟩ (fun f_807 ef_807 hq => ?_)
                  obtain ⟨hP, hD, hI, hE, hZ, hk0⟩ := hq
                  refine lv_aload_n hx hb dX12_tells_224 rfl (lv_at hl 2 rfl) ?_
                  refine lv_dup hx hb dX12_tells_225 rfl ?_
                  refine va_get (D := D) (ci := 12) (v := .int (f_807 22)) (C := RX12) (T := TX12) (N := 48) hx hb hg inC12 hown hK hP 0 rfl rfl 22 (by decide) (hg _ wt5_182) (fun _ h9 => h9) rfl dX12_tells_226 ?_
                  refine k_top (z := gv797) ((show f_807 22 = F793 22 from kn7_u1 ef_807 rfl).trans egv797.symm) ?_
                  refine lv_iconst (v := 1) hx hb dX12_tells_229 (by decide) ?_
                  refine lv_iadd hx hb dX12_tells_230 ?_
                  refine lv_topi (fun t808 et808 => ?_)
                  have b809 : kb 1 t808 2800 := kb_eq et808 (kb_add b799 kc_1 (by decide) (by decide))
                  have qt808 : t808.toInt = gv797.toInt + 1 := by rw [et808]; exact kt_addc b799 kc_1 (by decide) (by decide)
                  have hg810 : t808.toInt = 400 * (t : Int) + ((i + 1 : Nat) : Int) := by first | exact kn7_go qt808 hg798 | (rw [qt808, hg798]; omega)
                  refine va_put (D := D) (ci := 12) (v := .int t808) (ty := .int) (C := RX12) (T := TX12) (N := 48) hx hb hg inC12 tyX12 tyX12_ok nmX12 hown hK hP hD hS 0 rfl rfl 22 (by decide) (hg _ wt5_182) (fun _ h9 => h9) rfl (by decide +kernel) rfl rfl (Nat.le_of_ble_eq_true rfl) dX12_tells_231 (fun H locs hP hD hS => ?_)
                  have hP : va_P D vwCl (mW K o r (upd f_807 22 t808) a_778 g) H := hP
                  have hD : va_D A (mW K o r (upd f_807 22 t808) a_778 g) := hD
                  refine k_gen (P := fun z => va_P D vwCl (mW K o r z a_778 g) H ∧ va_D A (mW K o r z a_778 g) ∧ (mI z a_778) ∧ (mE (XR []) f a z a_778) ∧ (mZ [22, 23, 24, 25] [26] f a z a_778) ∧ (eS z a_778 t false)) (upd f_807 22 t808) ⟨hP, hD, (mI_f hI (fI_st hI.1 22 (kb_any _) (by decide) (by decide))), (mE_f hE (by decide)), (mZ_f hZ rfl), (eS_f hk0 (by decide) (by decide))⟩ (fun f_811 ef_811 hq => ?_)
                  obtain ⟨hP, hD, hI, hE, hZ, hk0⟩ := hq
                  refine lv_iload hx hb dX12_tells_234 (lv_at hl 0 rfl) ?_
                  refine lv_iconst (v := 4) hx hb dX12_tells_236 (by decide) ?_
                  refine lv_icmp_ne (tgt := 244) hx hb dX12_tells_237 (by decide) (fun c812 => ?_) (fun c812 => ?_)
                  · refine lv_aload_n hx hb dX12_tells_244 rfl (lv_at hl 2 rfl) ?_
                    refine lv_iconst (v := 1) hx hb dX12_tells_245 (by decide) ?_
                    refine kL.callV (As := [.int 1]) (rest := []) ⟨hx, hb, hml, hown, hg⟩ ((n_allSum 8) l o r f_811 a_778 g hI 1 (kb_w kc_1 (by decide) (by decide)) t (i + 1) (mm) false T (lwW (a 2) bd pt) ((DD (a 2 106).toInt.toNat).2.2.2.2.1 cc) hk0 (by rw [(show f_811 22 = t808 from kn7_u1 ef_811 rfl)]; exact hg810) hp2 (hp3 f_811) hs) (cwV 1 hg (kgV wt7_51 wt7_53 wp5_9 wt1_14 wt7_54) rfl rfl rfl (by decide +kernel) ⟨by decide, by decide⟩) hK hP hD hS hA mIs [] rfl (wr := []) rfl rfl rfl (fun i h => by cases h) 0 12 rfl rfl rfl hl.1 rfl (Nat.le_of_ble_eq_true rfl) dX12_tells_246 ⟨Nat.le_refl _, Nat.le_refl _⟩ (fun v814 u815 H locs hw813 hP hD hS => ?_)
                    have hP : va_P D vwCl (mW K o r u815 a_778 g) H := hP
                    have hD : va_D A (mW K o r u815 a_778 g) := hD
                    have hI : mI u815 a_778 := hw813.2.1
                    have eE816 : fE [22, 24] f_811 u815 := hw813.2.2.1
                    have hE : mE (XR []) f a u815 a_778 := mE_fE hE eE816 (by decide)
                    have hZ : mZ [22, 23, 24, 25] [26] f a u815 a_778 := mZ_fE hZ (fE_w (by decide) eE816)
                    have hk0 : eS u815 a_778 t false := eS_fE eE816 hk0 (by decide) (by decide)
                    obtain ⟨gv817, egv817⟩ : ∃ z : Int32, z = u815 22 := ⟨_, rfl⟩
                    have hg818 : gv817.toInt = 400 * (t : Int) + ((mm : Nat) : Int) := by rw [egv817]; exact hw813.2.2.2.1
                    have b819 : kb 0 gv817 2799 := kb_go hk0 (mC_lt hk0 (ne_0 (tq_y hp2 (x := 5) (y := 2003) (by decide +kernel) (by decide +kernel) h2) (by decide +kernel))) hg818
                    obtain ⟨bq820, ebq820⟩ : ∃ z : Int32, z = u815 24 := ⟨_, rfl⟩
                    have b821 : kb 0 bq820 1 := kb_eq ebq820 (fI_at hI.1 24 (by decide) (by decide))
                    have hr822 : mRs 1 0 (((DD (a 2 106).toInt.toNat).2.2.2.2.1 cc) (lwW (a 2) bd pt)) bq820 v814.toInt := by have w1 := hw813.2.2.2.2; rw [((show f_811 24 = f_807 24 from kn7_u1 ef_811 rfl).trans (show f_807 24 = 0 from kn7_u1 ef_807 rfl)), ← ebq820] at w1; exact w1
                    refine lv_lstore (lv' := [(9, .long v814), (8, .int 1), (6, .long y792), (0, .ref o), (1, .int hd), (2, .int bd), (3, .int pt), (4, .int hi), (5, .int wo)]) hx hb dX12_tells_249 hl (by decide) rfl (fun ls hl => ?_)
                    refine lv_aload_n hx hb dX12_tells_251 rfl (lv_at hl 3 rfl) ?_
                    refine va_get (D := D) (ci := 12) (v := .int (u815 24)) (C := RX12) (T := TX12) (N := 48) hx hb hg inC12 hown hK hP 0 rfl rfl 24 (by decide) (hg _ wt5_184) (fun _ h9 => h9) rfl dX12_tells_252 ?_
                    refine k_top (z := bq820) ebq820.symm ?_
                    refine lv_istore (lv' := [(11, .int bq820), (9, .long v814), (8, .int 1), (6, .long y792), (0, .ref o), (1, .int hd), (2, .int bd), (3, .int pt), (4, .int hi), (5, .int wo)]) hx hb dX12_tells_255 hl (by decide) rfl (fun ls hl => ?_)
                    refine lv_aload_n hx hb dX12_tells_257 rfl (lv_at hl 4 rfl) ?_
                    refine lv_iconst (v := 0) hx hb dX12_tells_258 (by decide) ?_
                    refine va_put (D := D) (ci := 12) (v := .int 0) (ty := .boolean) (C := RX12) (T := TX12) (N := 48) hx hb hg inC12 tyX12 tyX12_ok nmX12 hown hK hP hD hS 0 rfl rfl 24 (by decide) (hg _ wt5_184) (fun _ h9 => h9) rfl (by decide +kernel) rfl rfl (Nat.le_of_ble_eq_true rfl) dX12_tells_259 (fun H locs hP hD hS => ?_)
                    have hP : va_P D vwCl (mW K o r (upd u815 24 0) a_778 g) H := hP
                    have hD : va_D A (mW K o r (upd u815 24 0) a_778 g) := hD
                    refine k_gen (P := fun z => va_P D vwCl (mW K o r z a_778 g) H ∧ va_D A (mW K o r z a_778 g) ∧ (mI z a_778) ∧ (mE (XR []) f a z a_778) ∧ (mZ [22, 23, 24, 25] [26] f a z a_778) ∧ (eS z a_778 t false)) (upd u815 24 0) ⟨hP, hD, (mI_f hI (fI_st hI.1 24 kc_0 (by decide) (by decide))), (mE_f hE (by decide)), (mZ_f hZ rfl), (eS_f hk0 (by decide) (by decide))⟩ (fun f_823 ef_823 hq => ?_)
                    obtain ⟨hP, hD, hI, hE, hZ, hk0⟩ := hq
                    refine lv_aload_n hx hb dX12_tells_262 rfl (lv_at hl 4 rfl) ?_
                    refine lv_iconst (v := 5) hx hb dX12_tells_263 (by decide) ?_
                    refine kI.callV (As := [.int 5]) (rest := []) ⟨hx, hb, hml, hown, hg⟩ (m_passes0 l o r f_823 a_778 g hI 5 (kb_w kc_5 (by decide) (by decide)) t (mm) false hk0 (by rw [((show f_823 22 = u815 22 from kn7_u1 ef_823 rfl).trans egv817.symm)]; exact hg818)) (cwV 1 hg (kgV wt7_63 wt7_65 wp5_12 wt1_14 wt7_66) rfl rfl rfl (by decide +kernel) ⟨by decide, by decide⟩) hK hP hD hS hA mIs [] rfl (wr := []) rfl rfl rfl (fun i h => by cases h) 0 12 rfl rfl rfl hl.1 rfl (Nat.le_of_ble_eq_true rfl) dX12_tells_264 ⟨Nat.le_refl _, Nat.le_refl _⟩ (fun v825 u826 H locs hw824 hP hD hS => ?_)
                    have hP : va_P D vwCl (mW K o r u826 a_778 g) H := hP
                    have hD : va_D A (mW K o r u826 a_778 g) := hD
                    have hI : mI u826 a_778 := hw824.2.1
                    have eE827 : fE [22] f_823 u826 := hw824.2.2.1
                    have hE : mE (XR []) f a u826 a_778 := mE_fE hE eE827 (by decide)
                    have hZ : mZ [22, 23, 24, 25] [26] f a u826 a_778 := mZ_fE hZ (fE_w (by decide) eE827)
                    have hk0 : eS u826 a_778 t false := eS_fE eE827 hk0 (by decide) (by decide)
                    have hz828 := pass_y hw824.2.2.2 (tq_y hp2 (x := 5) (y := 2003) (by decide +kernel) (by decide +kernel) h2)
                    refine k_top (z := 1) hz828.1 ?_
                    obtain ⟨gv829, egv829⟩ : ∃ z : Int32, z = u826 22 := ⟨_, rfl⟩
                    have hg830 : gv829.toInt = 400 * (t : Int) + ((mm + 1 : Nat) : Int) := by rw [egv829]; exact hz828.2
                    refine lv_if_eq (tgt := 278) hx hb dX12_tells_267 (by decide) (fun c831 => ?_) (fun c831 => ?_)
                    · exact kb_dj c831 kc_1 kc_0 (by decide)
                    · refine lv_aload_n hx hb dX12_tells_270 rfl (lv_at hl 4 rfl) ?_
                      refine lv_iconst (v := 1) hx hb dX12_tells_271 (by decide) ?_
                      refine kI.callV (As := [.int 1]) (rest := []) ⟨hx, hb, hml, hown, hg⟩ ((n_allTest 8) l o r u826 a_778 g hI 1 (kb_w kc_1 (by decide) (by decide)) t (mm + 1) (jj) false T (lwW (a 2) bd pt) ((DD (a 2 106).toInt.toNat).2.2.2.2.2.2 cc) hk0 (by rw [egv829.symm]; exact hg830) hp2 (hp3 u826) h3) (cwV 1 hg (kgV wt7_80 wt7_82 wp5_15 wt1_14 wt7_83) rfl rfl rfl (by decide +kernel) ⟨by decide, by decide⟩) hK hP hD hS hA mIs [] rfl (wr := []) rfl rfl rfl (fun i h => by cases h) 0 12 rfl rfl rfl hl.1 rfl (Nat.le_of_ble_eq_true rfl) dX12_tells_272 ⟨Nat.le_refl _, Nat.le_refl _⟩ (fun v833 u834 H locs hw832 hP hD hS => ?_)
                      have hP : va_P D vwCl (mW K o r u834 a_778 g) H := hP
                      have hD : va_D A (mW K o r u834 a_778 g) := hD
                      have hI : mI u834 a_778 := hw832.2.1
                      have eE835 : fE [22, 24] u826 u834 := hw832.2.2.1
                      have hE : mE (XR []) f a u834 a_778 := mE_fE hE eE835 (by decide)
                      have hZ : mZ [22, 23, 24, 25] [26] f a u834 a_778 := mZ_fE hZ (fE_w (by decide) eE835)
                      have hk0 : eS u834 a_778 t false := eS_fE eE835 hk0 (by decide) (by decide)
                      obtain ⟨gv836, egv836⟩ : ∃ z : Int32, z = u834 22 := ⟨_, rfl⟩
                      have hg837 : gv836.toInt = 400 * (t : Int) + ((jj : Nat) : Int) := by rw [egv836]; exact hw832.2.2.2.1
                      have b838 : kb 0 gv836 2801 := kb_go1 hk0 (by have w1 := hk0.2.2.2.2; omega) hg837
                      obtain ⟨bq839, ebq839⟩ : ∃ z : Int32, z = u834 24 := ⟨_, rfl⟩
                      have b840 : kb 0 bq839 1 := kb_eq ebq839 (fI_at hI.1 24 (by decide) (by decide))
                      have hr841 : mTv 1 0 (((DD (a 2 106).toInt.toNat).2.2.2.2.2.2 cc) (lwW (a 2) bd pt)) bq839 v833 := by have w1 := hw832.2.2.2.2; rw [((eE827 24 (by decide)).trans (show f_823 24 = 0 from kn7_u1 ef_823 rfl)), ← ebq839] at w1; exact w1
                      refine lv_if_eq (tgt := 282) hx hb dX12_tells_275 (by decide) (fun c842 => ?_) (fun c842 => ?_)
                      · have b843 : kb 0 v833 0 := kb_eq c842 kc_0
                        refine lv_iconst (v := 0) hx hb dX12_tells_282 (by decide) ?_
                        refine lv_istore (lv' := [(12, .int 0), (11, .int bq820), (9, .long v814), (8, .int 1), (6, .long y792), (0, .ref o), (1, .int hd), (2, .int bd), (3, .int pt), (4, .int hi), (5, .int wo)]) hx hb dX12_tells_283 hl (by decide) rfl (fun ls hl => ?_)
                        refine lv_iload hx hb dX12_tells_285 (lv_at hl 3 rfl) ?_
                        refine lv_iload_n hx hb dX12_tells_287 rfl (lv_at hl 6 rfl) ?_
                        refine lv_icmp_ne (tgt := 338) hx hb dX12_tells_288 (by decide) (fun c844 => ?_) (fun c844 => ?_)
                        · refine lv_aload_n hx hb dX12_tells_338 rfl (lv_at hl 5 rfl) ?_
                          refine lv_dup hx hb dX12_tells_339 rfl ?_
                          refine va_get (D := D) (ci := 12) (v := .int (u834 22)) (C := RX12) (T := TX12) (N := 48) hx hb hg inC12 hown hK hP 0 rfl rfl 22 (by decide) (hg _ wt5_182) (fun _ h9 => h9) rfl dX12_tells_340 ?_
                          refine k_top (z := gv836) egv836.symm ?_
                          refine lv_iconst (v := 1) hx hb dX12_tells_343 (by decide) ?_
                          refine lv_iadd hx hb dX12_tells_344 ?_
                          refine lv_topi (fun t845 et845 => ?_)
                          have b846 : kb 1 t845 2802 := kb_eq et845 (kb_add b838 kc_1 (by decide) (by decide))
                          have qt845 : t845.toInt = gv836.toInt + 1 := by rw [et845]; exact kt_addc b838 kc_1 (by decide) (by decide)
                          have hg847 : t845.toInt = 400 * (t : Int) + ((jj + 1 : Nat) : Int) := by first | exact kn7_go qt845 hg837 | (rw [qt845, hg837]; omega)
                          refine va_put (D := D) (ci := 12) (v := .int t845) (ty := .int) (C := RX12) (T := TX12) (N := 48) hx hb hg inC12 tyX12 tyX12_ok nmX12 hown hK hP hD hS 0 rfl rfl 22 (by decide) (hg _ wt5_182) (fun _ h9 => h9) rfl (by decide +kernel) rfl rfl (Nat.le_of_ble_eq_true rfl) dX12_tells_345 (fun H locs hP hD hS => ?_)
                          have hP : va_P D vwCl (mW K o r (upd u834 22 t845) a_778 g) H := hP
                          have hD : va_D A (mW K o r (upd u834 22 t845) a_778 g) := hD
                          refine k_gen (P := fun z => va_P D vwCl (mW K o r z a_778 g) H ∧ va_D A (mW K o r z a_778 g) ∧ (mI z a_778) ∧ (mE (XR []) f a z a_778) ∧ (mZ [22, 23, 24, 25] [26] f a z a_778) ∧ (eS z a_778 t false)) (upd u834 22 t845) ⟨hP, hD, (mI_f hI (fI_st hI.1 22 (kb_any _) (by decide) (by decide))), (mE_f hE (by decide)), (mZ_f hZ rfl), (eS_f hk0 (by decide) (by decide))⟩ (fun f_848 ef_848 hq => ?_)
                          obtain ⟨hP, hD, hI, hE, hZ, hk0⟩ := hq
                          refine lv_goto (tgt := 198) hx hb dX12_tells_348 (by decide) ?_
                          exact ihlp794 (jj + 1) (cc + 1) f_848 _ _ _ y792 (by first | exact kn7_ml hmlp794 | (have w1 := hmlp794; omega)) hI hE hZ hk0 b796 (by rw [(show f_848 22 = t845 from kn7_u1 ef_848 rfl)]; exact hg847) (hnx.elim (fun q => Or.inl ⟨q.1, q.2.2.symm⟩) (fun q => Or.inr ⟨q.1, by first | exact kn7_sl q.2 | (have w1 := q.2; omega)⟩)) (by rw [lastOf_s, ct_n (fun q => c844 (Int32.toInt_inj.mp (by first | exact (kHd_j (hhk.symm.trans q) bhd).trans (by decide +kernel) | (have w1 := kHd_j (hhk.symm.trans q) bhd; have w2 : (1 : Int32).toInt = 1 := (by decide +kernel); omega))))]; exact htd) (by first | exact Nat.succ_le_of_lt hcs.1 | (have w1 := hcs.1; omega)) hP hD hS (lv_sub hl [4, 5, 6, 7, 8, 9, 10] rfl)
                        · have b849 : kb 1 hd 1 := kb_eq c844.symm kc_1
                          refine lv_iload hx hb dX12_tells_291 (lv_at hl 0 rfl) ?_
                          refine lv_if_eq (tgt := 338) hx hb dX12_tells_293 (by decide) (fun c850 => ?_) (fun c850 => ?_)
                          · refine lv_aload_n hx hb dX12_tells_338 rfl (lv_at hl 5 rfl) ?_
                            refine lv_dup hx hb dX12_tells_339 rfl ?_
                            refine va_get (D := D) (ci := 12) (v := .int (u834 22)) (C := RX12) (T := TX12) (N := 48) hx hb hg inC12 hown hK hP 0 rfl rfl 22 (by decide) (hg _ wt5_182) (fun _ h9 => h9) rfl dX12_tells_340 ?_
                            refine k_top (z := gv836) egv836.symm ?_
                            refine lv_iconst (v := 1) hx hb dX12_tells_343 (by decide) ?_
                            refine lv_iadd hx hb dX12_tells_344 ?_
                            refine lv_topi (fun t851 et851 => ?_)
                            have b852 : kb 1 t851 2802 := kb_eq et851 (kb_add b838 kc_1 (by decide) (by decide))
                            have qt851 : t851.toInt = gv836.toInt + 1 := by rw [et851]; exact kt_addc b838 kc_1 (by decide) (by decide)
                            have hg853 : t851.toInt = 400 * (t : Int) + ((jj + 1 : Nat) : Int) := by first | exact kn7_go qt851 hg837 | (rw [qt851, hg837]; omega)
                            refine va_put (D := D) (ci := 12) (v := .int t851) (ty := .int) (C := RX12) (T := TX12) (N := 48) hx hb hg inC12 tyX12 tyX12_ok nmX12 hown hK hP hD hS 0 rfl rfl 22 (by decide) (hg _ wt5_182) (fun _ h9 => h9) rfl (by decide +kernel) rfl rfl (Nat.le_of_ble_eq_true rfl) dX12_tells_345 (fun H locs hP hD hS => ?_)
                            have hP : va_P D vwCl (mW K o r (upd u834 22 t851) a_778 g) H := hP
                            have hD : va_D A (mW K o r (upd u834 22 t851) a_778 g) := hD
                            refine k_gen (P := fun z => va_P D vwCl (mW K o r z a_778 g) H ∧ va_D A (mW K o r z a_778 g) ∧ (mI z a_778) ∧ (mE (XR []) f a z a_778) ∧ (mZ [22, 23, 24, 25] [26] f a z a_778) ∧ (eS z a_778 t false)) (upd u834 22 t851) ⟨hP, hD, (mI_f hI (fI_st hI.1 22 (kb_any _) (by decide) (by decide))), (mE_f hE (by decide)), (mZ_f hZ rfl), (eS_f hk0 (by decide) (by decide))⟩ (fun f_854 ef_854 hq => ?_)
                            obtain ⟨hP, hD, hI, hE, hZ, hk0⟩ := hq
                            refine lv_goto (tgt := 198) hx hb dX12_tells_348 (by decide) ?_
                            exact ihlp794 (jj + 1) (cc + 1) f_854 _ _ _ y792 (by first | exact kn7_ml hmlp794 | (have w1 := hmlp794; omega)) hI hE hZ hk0 b796 (by rw [(show f_854 22 = t851 from kn7_u1 ef_854 rfl)]; exact hg853) (hnx.elim (fun q => Or.inl ⟨q.1, q.2.2.symm⟩) (fun q => Or.inr ⟨q.1, by first | exact kn7_sl q.2 | (have w1 := q.2; omega)⟩)) (by rw [lastOf_s, ct_t (mt_0 hr841 c842)]; exact htd) (by first | exact Nat.succ_le_of_lt hcs.1 | (have w1 := hcs.1; omega)) hP hD hS (lv_sub hl [4, 5, 6, 7, 8, 9, 10] rfl)
                          · exact kb_nsame c850 kc_0 kc_0
                      · have b855 : kb 1 v833 1 := kr_nel c842 hw832.1 kc_0 (by decide)
                        refine lv_iconst (v := 1) hx hb dX12_tells_278 (by decide) ?_
                        refine lv_goto (tgt := 283) hx hb dX12_tells_279 (by decide) ?_
                        refine lv_istore (lv' := [(12, .int 1), (11, .int bq820), (9, .long v814), (8, .int 1), (6, .long y792), (0, .ref o), (1, .int hd), (2, .int bd), (3, .int pt), (4, .int hi), (5, .int wo)]) hx hb dX12_tells_283 hl (by decide) rfl (fun ls hl => ?_)
                        refine lv_iload hx hb dX12_tells_285 (lv_at hl 3 rfl) ?_
                        refine lv_iload_n hx hb dX12_tells_287 rfl (lv_at hl 6 rfl) ?_
                        refine lv_icmp_ne (tgt := 338) hx hb dX12_tells_288 (by decide) (fun c856 => ?_) (fun c856 => ?_)
                        · refine lv_aload_n hx hb dX12_tells_338 rfl (lv_at hl 5 rfl) ?_
                          refine lv_dup hx hb dX12_tells_339 rfl ?_
                          refine va_get (D := D) (ci := 12) (v := .int (u834 22)) (C := RX12) (T := TX12) (N := 48) hx hb hg inC12 hown hK hP 0 rfl rfl 22 (by decide) (hg _ wt5_182) (fun _ h9 => h9) rfl dX12_tells_340 ?_
                          refine k_top (z := gv836) egv836.symm ?_
                          refine lv_iconst (v := 1) hx hb dX12_tells_343 (by decide) ?_
                          refine lv_iadd hx hb dX12_tells_344 ?_
                          refine lv_topi (fun t857 et857 => ?_)
                          have b858 : kb 1 t857 2802 := kb_eq et857 (kb_add b838 kc_1 (by decide) (by decide))
                          have qt857 : t857.toInt = gv836.toInt + 1 := by rw [et857]; exact kt_addc b838 kc_1 (by decide) (by decide)
                          have hg859 : t857.toInt = 400 * (t : Int) + ((jj + 1 : Nat) : Int) := by first | exact kn7_go qt857 hg837 | (rw [qt857, hg837]; omega)
                          refine va_put (D := D) (ci := 12) (v := .int t857) (ty := .int) (C := RX12) (T := TX12) (N := 48) hx hb hg inC12 tyX12 tyX12_ok nmX12 hown hK hP hD hS 0 rfl rfl 22 (by decide) (hg _ wt5_182) (fun _ h9 => h9) rfl (by decide +kernel) rfl rfl (Nat.le_of_ble_eq_true rfl) dX12_tells_345 (fun H locs hP hD hS => ?_)
                          have hP : va_P D vwCl (mW K o r (upd u834 22 t857) a_778 g) H := hP
                          have hD : va_D A (mW K o r (upd u834 22 t857) a_778 g) := hD
                          refine k_gen (P := fun z => va_P D vwCl (mW K o r z a_778 g) H ∧ va_D A (mW K o r z a_778 g) ∧ (mI z a_778) ∧ (mE (XR []) f a z a_778) ∧ (mZ [22, 23, 24, 25] [26] f a z a_778) ∧ (eS z a_778 t false)) (upd u834 22 t857) ⟨hP, hD, (mI_f hI (fI_st hI.1 22 (kb_any _) (by decide) (by decide))), (mE_f hE (by decide)), (mZ_f hZ rfl), (eS_f hk0 (by decide) (by decide))⟩ (fun f_860 ef_860 hq => ?_)
                          obtain ⟨hP, hD, hI, hE, hZ, hk0⟩ := hq
                          refine lv_goto (tgt := 198) hx hb dX12_tells_348 (by decide) ?_
                          exact ihlp794 (jj + 1) (cc + 1) f_860 _ _ _ y792 (by first | exact kn7_ml hmlp794 | (have w1 := hmlp794; omega)) hI hE hZ hk0 b796 (by rw [(show f_860 22 = t857 from kn7_u1 ef_860 rfl)]; exact hg859) (hnx.elim (fun q => Or.inl ⟨q.1, q.2.2.symm⟩) (fun q => Or.inr ⟨q.1, by first | exact kn7_sl q.2 | (have w1 := q.2; omega)⟩)) (by rw [lastOf_s, ct_n (fun q => c856 (Int32.toInt_inj.mp (by first | exact (kHd_j (hhk.symm.trans q) bhd).trans (by decide +kernel) | (have w1 := kHd_j (hhk.symm.trans q) bhd; have w2 : (1 : Int32).toInt = 1 := (by decide +kernel); omega))))]; exact htd) (by first | exact Nat.succ_le_of_lt hcs.1 | (have w1 := hcs.1; omega)) hP hD hS (lv_sub hl [4, 5, 6, 7, 8, 9, 10] rfl)
                        · have b861 : kb 1 hd 1 := kb_eq c856.symm kc_1
                          refine lv_iload hx hb dX12_tells_291 (lv_at hl 0 rfl) ?_
                          refine lv_if_eq (tgt := 338) hx hb dX12_tells_293 (by decide) (fun c862 => ?_) (fun c862 => ?_)
                          · exact kb_dj c862 kc_1 kc_0 (by decide)
                          · refine lv_aload_n hx hb dX12_tells_296 rfl (lv_at hl 5 rfl) ?_
                            refine va_get (D := D) (ci := 12) (v := .int (u834 24)) (C := RX12) (T := TX12) (N := 48) hx hb hg inC12 hown hK hP 0 rfl rfl 24 (by decide) (hg _ wt5_184) (fun _ h9 => h9) rfl dX12_tells_297 ?_
                            refine k_top (z := bq839) ebq839.symm ?_
                            refine lv_if_ne (tgt := 338) hx hb dX12_tells_300 (by decide) (fun c863 => ?_) (fun c863 => ?_)
                            · have b864 : kb 1 bq839 1 := kr_nel c863 b840 kc_0 (by decide)
                              refine lv_aload_n hx hb dX12_tells_338 rfl (lv_at hl 5 rfl) ?_
                              refine lv_dup hx hb dX12_tells_339 rfl ?_
                              refine va_get (D := D) (ci := 12) (v := .int (u834 22)) (C := RX12) (T := TX12) (N := 48) hx hb hg inC12 hown hK hP 0 rfl rfl 22 (by decide) (hg _ wt5_182) (fun _ h9 => h9) rfl dX12_tells_340 ?_
                              refine k_top (z := gv836) egv836.symm ?_
                              refine lv_iconst (v := 1) hx hb dX12_tells_343 (by decide) ?_
                              refine lv_iadd hx hb dX12_tells_344 ?_
                              refine lv_topi (fun t865 et865 => ?_)
                              have b866 : kb 1 t865 2802 := kb_eq et865 (kb_add b838 kc_1 (by decide) (by decide))
                              have qt865 : t865.toInt = gv836.toInt + 1 := by rw [et865]; exact kt_addc b838 kc_1 (by decide) (by decide)
                              have hg867 : t865.toInt = 400 * (t : Int) + ((jj + 1 : Nat) : Int) := by first | exact kn7_go qt865 hg837 | (rw [qt865, hg837]; omega)
                              refine va_put (D := D) (ci := 12) (v := .int t865) (ty := .int) (C := RX12) (T := TX12) (N := 48) hx hb hg inC12 tyX12 tyX12_ok nmX12 hown hK hP hD hS 0 rfl rfl 22 (by decide) (hg _ wt5_182) (fun _ h9 => h9) rfl (by decide +kernel) rfl rfl (Nat.le_of_ble_eq_true rfl) dX12_tells_345 (fun H locs hP hD hS => ?_)
                              have hP : va_P D vwCl (mW K o r (upd u834 22 t865) a_778 g) H := hP
                              have hD : va_D A (mW K o r (upd u834 22 t865) a_778 g) := hD
                              refine k_gen (P := fun z => va_P D vwCl (mW K o r z a_778 g) H ∧ va_D A (mW K o r z a_778 g) ∧ (mI z a_778) ∧ (mE (XR []) f a z a_778) ∧ (mZ [22, 23, 24, 25] [26] f a z a_778) ∧ (eS z a_778 t false)) (upd u834 22 t865) ⟨hP, hD, (mI_f hI (fI_st hI.1 22 (kb_any _) (by decide) (by decide))), (mE_f hE (by decide)), (mZ_f hZ rfl), (eS_f hk0 (by decide) (by decide))⟩ (fun f_868 ef_868 hq => ?_)
                              obtain ⟨hP, hD, hI, hE, hZ, hk0⟩ := hq
                              refine lv_goto (tgt := 198) hx hb dX12_tells_348 (by decide) ?_
                              exact ihlp794 (jj + 1) (cc + 1) f_868 _ _ _ y792 (by first | exact kn7_ml hmlp794 | (have w1 := hmlp794; omega)) hI hE hZ hk0 b796 (by rw [(show f_868 22 = t865 from kn7_u1 ef_868 rfl)]; exact hg867) (hnx.elim (fun q => Or.inl ⟨q.1, q.2.2.symm⟩) (fun q => Or.inr ⟨q.1, by first | exact kn7_sl q.2 | (have w1 := q.2; omega)⟩)) (by rw [lastOf_s, ct_t (mt_n hr841 c863)]; exact htd) (by first | exact Nat.succ_le_of_lt hcs.1 | (have w1 := hcs.1; omega)) hP hD hS (lv_sub hl [4, 5, 6, 7, 8, 9, 10] rfl)
                            · have b869 : kb 0 bq839 0 := kb_eq c863 kc_0
                              refine lv_iload hx hb dX12_tells_303 (lv_at hl 1 rfl) ?_
                              refine lv_if_ne (tgt := 338) hx hb dX12_tells_305 (by decide) (fun c870 => ?_) (fun c870 => ?_)
                              · have b871 : kb 1 bq820 1 := kr_nel c870 b821 kc_0 (by decide)
                                refine lv_aload_n hx hb dX12_tells_338 rfl (lv_at hl 5 rfl) ?_
                                refine lv_dup hx hb dX12_tells_339 rfl ?_
                                refine va_get (D := D) (ci := 12) (v := .int (u834 22)) (C := RX12) (T := TX12) (N := 48) hx hb hg inC12 hown hK hP 0 rfl rfl 22 (by decide) (hg _ wt5_182) (fun _ h9 => h9) rfl dX12_tells_340 ?_
                                refine k_top (z := gv836) egv836.symm ?_
                                refine lv_iconst (v := 1) hx hb dX12_tells_343 (by decide) ?_
                                refine lv_iadd hx hb dX12_tells_344 ?_
                                refine lv_topi (fun t872 et872 => ?_)
                                have b873 : kb 1 t872 2802 := kb_eq et872 (kb_add b838 kc_1 (by decide) (by decide))
                                have qt872 : t872.toInt = gv836.toInt + 1 := by rw [et872]; exact kt_addc b838 kc_1 (by decide) (by decide)
                                have hg874 : t872.toInt = 400 * (t : Int) + ((jj + 1 : Nat) : Int) := by first | exact kn7_go qt872 hg837 | (rw [qt872, hg837]; omega)
                                refine va_put (D := D) (ci := 12) (v := .int t872) (ty := .int) (C := RX12) (T := TX12) (N := 48) hx hb hg inC12 tyX12 tyX12_ok nmX12 hown hK hP hD hS 0 rfl rfl 22 (by decide) (hg _ wt5_182) (fun _ h9 => h9) rfl (by decide +kernel) rfl rfl (Nat.le_of_ble_eq_true rfl) dX12_tells_345 (fun H locs hP hD hS => ?_)
                                have hP : va_P D vwCl (mW K o r (upd u834 22 t872) a_778 g) H := hP
                                have hD : va_D A (mW K o r (upd u834 22 t872) a_778 g) := hD
                                refine k_gen (P := fun z => va_P D vwCl (mW K o r z a_778 g) H ∧ va_D A (mW K o r z a_778 g) ∧ (mI z a_778) ∧ (mE (XR []) f a z a_778) ∧ (mZ [22, 23, 24, 25] [26] f a z a_778) ∧ (eS z a_778 t false)) (upd u834 22 t872) ⟨hP, hD, (mI_f hI (fI_st hI.1 22 (kb_any _) (by decide) (by decide))), (mE_f hE (by decide)), (mZ_f hZ rfl), (eS_f hk0 (by decide) (by decide))⟩ (fun f_875 ef_875 hq => ?_)
                                obtain ⟨hP, hD, hI, hE, hZ, hk0⟩ := hq
                                refine lv_goto (tgt := 198) hx hb dX12_tells_348 (by decide) ?_
                                exact ihlp794 (jj + 1) (cc + 1) f_875 _ _ _ y792 (by first | exact kn7_ml hmlp794 | (have w1 := hmlp794; omega)) hI hE hZ hk0 b796 (by rw [(show f_875 22 = t872 from kn7_u1 ef_875 rfl)]; exact hg874) (hnx.elim (fun q => Or.inl ⟨q.1, q.2.2.symm⟩) (fun q => Or.inr ⟨q.1, by first | exact kn7_sl q.2 | (have w1 := q.2; omega)⟩)) (by rw [lastOf_s, ct_b (mr_n hr822 c870)]; exact htd) (by first | exact Nat.succ_le_of_lt hcs.1 | (have w1 := hcs.1; omega)) hP hD hS (lv_sub hl [4, 5, 6, 7, 8, 9, 10] rfl)
                              · have b876 : kb 0 bq820 0 := kb_eq c870 kc_0
                                refine lv_lload hx hb dX12_tells_308 (lv_at hl 2 rfl) ?_
                                refine lv_lconst (v := 0) hx hb dX12_tells_310 (by decide) ?_
                                refine W.lcmp hx hb dX12_tells_311 ?_
                                refine lv_topi (fun t877 et877 => ?_)
                                refine lv_if_ge (tgt := 319) hx hb dX12_tells_312 (by decide) (fun c878 => ?_) (fun c878 => ?_)
                                · have h879 := klc_ge (et877 ▸ c878)
                                  have b880 : kbl 0 v814 9223372036854775807 := klr_le2 h879 kcl_0 (kbl_any v814)
                                  refine lv_lload hx hb dX12_tells_319 (lv_at hl 2 rfl) ?_
                                  refine lv_iload hx hb dX12_tells_321 (lv_at hl 9 rfl) ?_
                                  refine lv_i2l hx hb dX12_tells_323 rfl ?_
                                  refine lv_topl (fun t881 et881 => ?_)
                                  have b882 : kbl 0 t881 20 := kbl_eq et881 (kbl_i2l bhi)
                                  refine W.lcmp hx hb dX12_tells_324 ?_
                                  refine lv_topi (fun t883 et883 => ?_)
                                  refine lv_if_le (tgt := 334) hx hb dX12_tells_325 (by decide) (fun c884 => ?_) (fun c884 => ?_)
                                  · have h885 := klc_le (et883 ▸ c884)
                                    have b886 : kbl 0 v814 20 := klr_le1 h885 b880 b882
                                    refine lv_lload hx hb dX12_tells_334 (lv_at hl 2 rfl) ?_
                                    refine lv_lstore (lv' := [(6, .long v814), (12, .int 1), (11, .int bq820), (9, .long v814), (8, .int 1), (0, .ref o), (1, .int hd), (2, .int bd), (3, .int pt), (4, .int hi), (5, .int wo)]) hx hb dX12_tells_336 hl (by decide) rfl (fun ls hl => ?_)
                                    refine lv_aload_n hx hb dX12_tells_338 rfl (lv_at hl 5 rfl) ?_
                                    refine lv_dup hx hb dX12_tells_339 rfl ?_
                                    refine va_get (D := D) (ci := 12) (v := .int (u834 22)) (C := RX12) (T := TX12) (N := 48) hx hb hg inC12 hown hK hP 0 rfl rfl 22 (by decide) (hg _ wt5_182) (fun _ h9 => h9) rfl dX12_tells_340 ?_
                                    refine k_top (z := gv836) egv836.symm ?_
                                    refine lv_iconst (v := 1) hx hb dX12_tells_343 (by decide) ?_
                                    refine lv_iadd hx hb dX12_tells_344 ?_
                                    refine lv_topi (fun t887 et887 => ?_)
                                    have b888 : kb 1 t887 2802 := kb_eq et887 (kb_add b838 kc_1 (by decide) (by decide))
                                    have qt887 : t887.toInt = gv836.toInt + 1 := by rw [et887]; exact kt_addc b838 kc_1 (by decide) (by decide)
                                    have hg889 : t887.toInt = 400 * (t : Int) + ((jj + 1 : Nat) : Int) := by first | exact kn7_go qt887 hg837 | (rw [qt887, hg837]; omega)
                                    refine va_put (D := D) (ci := 12) (v := .int t887) (ty := .int) (C := RX12) (T := TX12) (N := 48) hx hb hg inC12 tyX12 tyX12_ok nmX12 hown hK hP hD hS 0 rfl rfl 22 (by decide) (hg _ wt5_182) (fun _ h9 => h9) rfl (by decide +kernel) rfl rfl (Nat.le_of_ble_eq_true rfl) dX12_tells_345 (fun H locs hP hD hS => ?_)
                                    have hP : va_P D vwCl (mW K o r (upd u834 22 t887) a_778 g) H := hP
                                    have hD : va_D A (mW K o r (upd u834 22 t887) a_778 g) := hD
                                    refine k_gen (P := fun z => va_P D vwCl (mW K o r z a_778 g) H ∧ va_D A (mW K o r z a_778 g) ∧ (mI z a_778) ∧ (mE (XR []) f a z a_778) ∧ (mZ [22, 23, 24, 25] [26] f a z a_778) ∧ (eS z a_778 t false)) (upd u834 22 t887) ⟨hP, hD, (mI_f hI (fI_st hI.1 22 (kb_any _) (by decide) (by decide))), (mE_f hE (by decide)), (mZ_f hZ rfl), (eS_f hk0 (by decide) (by decide))⟩ (fun f_890 ef_890 hq => ?_)
                                    obtain ⟨hP, hD, hI, hE, hZ, hk0⟩ := hq
                                    refine lv_goto (tgt := 198) hx hb dX12_tells_348 (by decide) ?_
                                    exact ihlp794 (jj + 1) (cc + 1) f_890 _ _ _ v814 (by first | exact kn7_ml hmlp794 | (have w1 := hmlp794; omega)) hI hE hZ hk0 b886 (by rw [(show f_890 22 = t887 from kn7_u1 ef_890 rfl)]; exact hg889) (hnx.elim (fun q => Or.inl ⟨q.1, q.2.2.symm⟩) (fun q => Or.inr ⟨q.1, by first | exact kn7_sl q.2 | (have w1 := q.2; omega)⟩)) (by rw [lastOf_s, ct_y (hhk.trans (by rw [← c856]; decide +kernel)) (by have w1 := mt_1 hr841 c863; rw [kb_11 b855] at w1; exact w1) (mr_s hr822 c870)]; show (v814 : Int64).toInt = max 0 (min hi.toInt (v814.toInt)); have w0 := bhi.1; have k0 : (0 : Int64).toInt = 0 := (by decide +kernel); have k1 : (1 : Int64).toInt = 1 := (by decide +kernel); have k9t881 : t881.toInt = hi.toInt := (congrArg Int64.toInt et881).trans (kt_i2l _); omega) (by first | exact Nat.succ_le_of_lt hcs.1 | (have w1 := hcs.1; omega)) hP hD hS (lv_sub hl [0, 5, 6, 7, 8, 9, 10] rfl)
                                  · have h891 := klc_nle (et883 ▸ c884)
                                    have b892 : kbl 1 v814 9223372036854775807 := klr_lt2 h891 b882 b880 (by decide)
                                    refine lv_iload hx hb dX12_tells_328 (lv_at hl 9 rfl) ?_
                                    refine lv_i2l hx hb dX12_tells_330 rfl ?_
                                    refine lv_topl (fun t893 et893 => ?_)
                                    have b894 : kbl 0 t893 20 := kbl_eq et893 (kbl_i2l bhi)
                                    refine lv_goto (tgt := 336) hx hb dX12_tells_331 (by decide) ?_
                                    refine lv_lstore (lv' := [(6, .long t893), (12, .int 1), (11, .int bq820), (9, .long v814), (8, .int 1), (0, .ref o), (1, .int hd), (2, .int bd), (3, .int pt), (4, .int hi), (5, .int wo)]) hx hb dX12_tells_336 hl (by decide) rfl (fun ls hl => ?_)
                                    refine lv_aload_n hx hb dX12_tells_338 rfl (lv_at hl 5 rfl) ?_
                                    refine lv_dup hx hb dX12_tells_339 rfl ?_
                                    refine va_get (D := D) (ci := 12) (v := .int (u834 22)) (C := RX12) (T := TX12) (N := 48) hx hb hg inC12 hown hK hP 0 rfl rfl 22 (by decide) (hg _ wt5_182) (fun _ h9 => h9) rfl dX12_tells_340 ?_
                                    refine k_top (z := gv836) egv836.symm ?_
                                    refine lv_iconst (v := 1) hx hb dX12_tells_343 (by decide) ?_
                                    refine lv_iadd hx hb dX12_tells_344 ?_
                                    refine lv_topi (fun t895 et895 => ?_)
                                    have b896 : kb 1 t895 2802 := kb_eq et895 (kb_add b838 kc_1 (by decide) (by decide))
                                    have qt895 : t895.toInt = gv836.toInt + 1 := by rw [et895]; exact kt_addc b838 kc_1 (by decide) (by decide)
                                    have hg897 : t895.toInt = 400 * (t : Int) + ((jj + 1 : Nat) : Int) := by first | exact kn7_go qt895 hg837 | (rw [qt895, hg837]; omega)
                                    refine va_put (D := D) (ci := 12) (v := .int t895) (ty := .int) (C := RX12) (T := TX12) (N := 48) hx hb hg inC12 tyX12 tyX12_ok nmX12 hown hK hP hD hS 0 rfl rfl 22 (by decide) (hg _ wt5_182) (fun _ h9 => h9) rfl (by decide +kernel) rfl rfl (Nat.le_of_ble_eq_true rfl) dX12_tells_345 (fun H locs hP hD hS => ?_)
                                    have hP : va_P D vwCl (mW K o r (upd u834 22 t895) a_778 g) H := hP
                                    have hD : va_D A (mW K o r (upd u834 22 t895) a_778 g) := hD
                                    refine k_gen (P := fun z => va_P D vwCl (mW K o r z a_778 g) H ∧ va_D A (mW K o r z a_778 g) ∧ (mI z a_778) ∧ (mE (XR []) f a z a_778) ∧ (mZ [22, 23, 24, 25] [26] f a z a_778) ∧ (eS z a_778 t false)) (upd u834 22 t895) ⟨hP, hD, (mI_f hI (fI_st hI.1 22 (kb_any _) (by decide) (by decide))), (mE_f hE (by decide)), (mZ_f hZ rfl), (eS_f hk0 (by decide) (by decide))⟩ (fun f_898 ef_898 hq => ?_)
                                    obtain ⟨hP, hD, hI, hE, hZ, hk0⟩ := hq
                                    refine lv_goto (tgt := 198) hx hb dX12_tells_348 (by decide) ?_
                                    exact ihlp794 (jj + 1) (cc + 1) f_898 _ _ _ t893 (by first | exact kn7_ml hmlp794 | (have w1 := hmlp794; omega)) hI hE hZ hk0 b894 (by rw [(show f_898 22 = t895 from kn7_u1 ef_898 rfl)]; exact hg897) (hnx.elim (fun q => Or.inl ⟨q.1, q.2.2.symm⟩) (fun q => Or.inr ⟨q.1, by first | exact kn7_sl q.2 | (have w1 := q.2; omega)⟩)) (by rw [lastOf_s, ct_y (hhk.trans (by rw [← c856]; decide +kernel)) (by have w1 := mt_1 hr841 c863; rw [kb_11 b855] at w1; exact w1) (mr_s hr822 c870)]; show (t893 : Int64).toInt = max 0 (min hi.toInt (v814.toInt)); have w0 := bhi.1; have k0 : (0 : Int64).toInt = 0 := (by decide +kernel); have k1 : (1 : Int64).toInt = 1 := (by decide +kernel); have k9 : t893.toInt = hi.toInt := (congrArg Int64.toInt et893).trans (kt_i2l _); have k9t881 : t881.toInt = hi.toInt := (congrArg Int64.toInt et881).trans (kt_i2l _); have k9t893 : t893.toInt = hi.toInt := (congrArg Int64.toInt et893).trans (kt_i2l _); omega) (by first | exact Nat.succ_le_of_lt hcs.1 | (have w1 := hcs.1; omega)) hP hD hS (lv_sub hl [0, 5, 6, 7, 8, 9, 10] rfl)
                                · have h899 := klc_nge (et877 ▸ c878)
                                  have b900 : kbl (-9223372036854775808) v814 (-1) := klr_lt1 h899 (kbl_any v814) kcl_0 (by decide)
                                  refine lv_lconst (v := 0) hx hb dX12_tells_315 (by decide) ?_
                                  refine lv_goto (tgt := 336) hx hb dX12_tells_316 (by decide) ?_
                                  refine lv_lstore (lv' := [(6, .long 0), (12, .int 1), (11, .int bq820), (9, .long v814), (8, .int 1), (0, .ref o), (1, .int hd), (2, .int bd), (3, .int pt), (4, .int hi), (5, .int wo)]) hx hb dX12_tells_336 hl (by decide) rfl (fun ls hl => ?_)
                                  refine lv_aload_n hx hb dX12_tells_338 rfl (lv_at hl 5 rfl) ?_
                                  refine lv_dup hx hb dX12_tells_339 rfl ?_
                                  refine va_get (D := D) (ci := 12) (v := .int (u834 22)) (C := RX12) (T := TX12) (N := 48) hx hb hg inC12 hown hK hP 0 rfl rfl 22 (by decide) (hg _ wt5_182) (fun _ h9 => h9) rfl dX12_tells_340 ?_
                                  refine k_top (z := gv836) egv836.symm ?_
                                  refine lv_iconst (v := 1) hx hb dX12_tells_343 (by decide) ?_
                                  refine lv_iadd hx hb dX12_tells_344 ?_
                                  refine lv_topi (fun t901 et901 => ?_)
                                  have b902 : kb 1 t901 2802 := kb_eq et901 (kb_add b838 kc_1 (by decide) (by decide))
                                  have qt901 : t901.toInt = gv836.toInt + 1 := by rw [et901]; exact kt_addc b838 kc_1 (by decide) (by decide)
                                  have hg903 : t901.toInt = 400 * (t : Int) + ((jj + 1 : Nat) : Int) := by first | exact kn7_go qt901 hg837 | (rw [qt901, hg837]; omega)
                                  refine va_put (D := D) (ci := 12) (v := .int t901) (ty := .int) (C := RX12) (T := TX12) (N := 48) hx hb hg inC12 tyX12 tyX12_ok nmX12 hown hK hP hD hS 0 rfl rfl 22 (by decide) (hg _ wt5_182) (fun _ h9 => h9) rfl (by decide +kernel) rfl rfl (Nat.le_of_ble_eq_true rfl) dX12_tells_345 (fun H locs hP hD hS => ?_)
                                  have hP : va_P D vwCl (mW K o r (upd u834 22 t901) a_778 g) H := hP
                                  have hD : va_D A (mW K o r (upd u834 22 t901) a_778 g) := hD
                                  refine k_gen (P := fun z => va_P D vwCl (mW K o r z a_778 g) H ∧ va_D A (mW K o r z a_778 g) ∧ (mI z a_778) ∧ (mE (XR []) f a z a_778) ∧ (mZ [22, 23, 24, 25] [26] f a z a_778) ∧ (eS z a_778 t false)) (upd u834 22 t901) ⟨hP, hD, (mI_f hI (fI_st hI.1 22 (kb_any _) (by decide) (by decide))), (mE_f hE (by decide)), (mZ_f hZ rfl), (eS_f hk0 (by decide) (by decide))⟩ (fun f_904 ef_904 hq => ?_)
                                  obtain ⟨hP, hD, hI, hE, hZ, hk0⟩ := hq
                                  refine lv_goto (tgt := 198) hx hb dX12_tells_348 (by decide) ?_
                                  exact ihlp794 (jj + 1) (cc + 1) f_904 _ _ _ 0 (by first | exact kn7_ml hmlp794 | (have w1 := hmlp794; omega)) hI hE hZ hk0 (kbl_w kcl_0 (by decide) (by decide)) (by rw [(show f_904 22 = t901 from kn7_u1 ef_904 rfl)]; exact hg903) (hnx.elim (fun q => Or.inl ⟨q.1, q.2.2.symm⟩) (fun q => Or.inr ⟨q.1, by first | exact kn7_sl q.2 | (have w1 := q.2; omega)⟩)) (by rw [lastOf_s, ct_y (hhk.trans (by rw [← c856]; decide +kernel)) (by have w1 := mt_1 hr841 c863; rw [kb_11 b855] at w1; exact w1) (mr_s hr822 c870)]; show (0 : Int64).toInt = max 0 (min hi.toInt (v814.toInt)); have w0 := bhi.1; have k0 : (0 : Int64).toInt = 0 := (by decide +kernel); have k1 : (1 : Int64).toInt = 1 := (by decide +kernel); omega) (by first | exact Nat.succ_le_of_lt hcs.1 | (have w1 := hcs.1; omega)) hP hD hS (lv_sub hl [0, 5, 6, 7, 8, 9, 10] rfl)
                  · exact kb_dj c812 kc_1 kc_4 (by decide)
              · subst hj
                refine lv_aload_n hx hb dX12_tells_198 rfl (lv_at hl 1 rfl) ?_
                refine va_get (D := D) (ci := 12) (v := .int (F793 22)) (C := RX12) (T := TX12) (N := 48) hx hb hg inC12 hown hK hP 0 rfl rfl 22 (by decide) (hg _ wt5_182) (fun _ h9 => h9) rfl dX12_tells_199 ?_
                refine k_top (z := gv797) egv797.symm ?_
                refine lv_aload_n hx hb dX12_tells_202 rfl (lv_at hl 1 rfl) ?_
                refine va_get (D := D) (ci := 12) (v := .int (F793 23)) (C := RX12) (T := TX12) (N := 48) hx hb hg inC12 hown hK hP 0 rfl rfl 23 (by decide) (hg _ wt5_183) (fun _ h9 => h9) rfl dX12_tells_203 ?_
                refine lv_topi (fun t905 et905 => ?_)
                refine lv_icmp_ge (tgt := 351) hx hb dX12_tells_206 (by decide) (fun c906 => ?_) (fun c906 => ?_)
                · exact absurd (kc_le c906) (by have w1 := congrArg Int32.toInt et905.symm; have w2 := hk0.2.1; have w3 := hg798; have w4 := mC_lS hk0 (ne_0 (tq_y hp2 (x := 1) (y := 2004) (by decide +kernel) (by decide +kernel) h1) (by decide +kernel)); omega)
                · have h907 := (kc_nle c906)
                  have b908 : kb 1 t905 2147483647 := kr_lt2 h907 b799 (kb_any t905) (by decide)
                  refine lv_aload_n hx hb dX12_tells_209 rfl (lv_at hl 1 rfl) ?_
                  refine lv_aload_n hx hb dX12_tells_210 rfl (lv_at hl 1 rfl) ?_
                  refine va_get (D := D) (ci := 12) (v := .int (F793 22)) (C := RX12) (T := TX12) (N := 48) hx hb hg inC12 hown hK hP 0 rfl rfl 22 (by decide) (hg _ wt5_182) (fun _ h9 => h9) rfl dX12_tells_211 ?_
                  refine k_top (z := gv797) egv797.symm ?_
                  refine kI.callV (As := [.int gv797]) (rest := []) ⟨hx, hb, hml, hown, hg⟩ (m_codeAt l o r F793 a_778 g hI gv797  t (i) false hk0 hg798) (cwV 1 hg (kgV wt7_47 wt7_49 wp5_8 wt1_14 wt7_50) rfl rfl rfl (by decide +kernel) ⟨by decide, by decide⟩) hK hP hD hS hA mIs [] rfl (wr := []) rfl rfl rfl (fun i h => by cases h) 0 12 rfl rfl rfl hl.1 rfl (Nat.le_of_ble_eq_true rfl) dX12_tells_214 ⟨Nat.le_refl _, Nat.le_refl _⟩ (fun v910 u911 H locs hw909 hP hD hS => ?_)
                  have hP : va_P D vwCl (mW K o r F793 a_778 g) H := hP
                  have hD : va_D A (mW K o r F793 a_778 g) := hD
                  refine k_top (z := 1) (hw909.2.trans (tq_y hp2 (x := 1) (y := 2004) (by decide +kernel) (by decide +kernel) h1)) ?_
                  refine lv_istore (lv' := [(8, .int 1), (6, .long y792), (0, .ref o), (1, .int hd), (2, .int bd), (3, .int pt), (4, .int hi), (5, .int wo)]) hx hb dX12_tells_217 hl (by decide) rfl (fun ls hl => ?_)
                  refine lv_aload_n hx hb dX12_tells_219 rfl (lv_at hl 2 rfl) ?_
                  refine lv_iconst (v := 0) hx hb dX12_tells_220 (by decide) ?_
                  refine va_put (D := D) (ci := 12) (v := .int 0) (ty := .boolean) (C := RX12) (T := TX12) (N := 48) hx hb hg inC12 tyX12 tyX12_ok nmX12 hown hK hP hD hS 0 rfl rfl 24 (by decide) (hg _ wt5_184) (fun _ h9 => h9) rfl (by decide +kernel) rfl rfl (Nat.le_of_ble_eq_true rfl) dX12_tells_221 (fun H locs hP hD hS => ?_)
                  have hP : va_P D vwCl (mW K o r (upd F793 24 0) a_778 g) H := hP
                  have hD : va_D A (mW K o r (upd F793 24 0) a_778 g) := hD
                  refine k_gen (P := fun z => va_P D vwCl (mW K o r z a_778 g) H ∧ va_D A (mW K o r z a_778 g) ∧ (mI z a_778) ∧ (mE (XR []) f a z a_778) ∧ (mZ [22, 23, 24, 25] [26] f a z a_778) ∧ (eS z a_778 t false)) (upd F793 24 0) ⟨hP, hD, (mI_f hI (fI_st hI.1 24 kc_0 (by decide) (by decide))), (mE_f hE (by decide)), (mZ_f hZ rfl), (eS_f hk0 (by decide) (by decide))⟩ (fun f_912 ef_912 hq => ?_)
                  obtain ⟨hP, hD, hI, hE, hZ, hk0⟩ := hq
                  refine lv_aload_n hx hb dX12_tells_224 rfl (lv_at hl 2 rfl) ?_
                  refine lv_dup hx hb dX12_tells_225 rfl ?_
                  refine va_get (D := D) (ci := 12) (v := .int (f_912 22)) (C := RX12) (T := TX12) (N := 48) hx hb hg inC12 hown hK hP 0 rfl rfl 22 (by decide) (hg _ wt5_182) (fun _ h9 => h9) rfl dX12_tells_226 ?_
                  refine k_top (z := gv797) ((show f_912 22 = F793 22 from kn7_u1 ef_912 rfl).trans egv797.symm) ?_
                  refine lv_iconst (v := 1) hx hb dX12_tells_229 (by decide) ?_
                  refine lv_iadd hx hb dX12_tells_230 ?_
                  refine lv_topi (fun t913 et913 => ?_)
                  have b914 : kb 1 t913 2800 := kb_eq et913 (kb_add b799 kc_1 (by decide) (by decide))
                  have qt913 : t913.toInt = gv797.toInt + 1 := by rw [et913]; exact kt_addc b799 kc_1 (by decide) (by decide)
                  have hg915 : t913.toInt = 400 * (t : Int) + ((i + 1 : Nat) : Int) := by first | exact kn7_go qt913 hg798 | (rw [qt913, hg798]; omega)
                  refine va_put (D := D) (ci := 12) (v := .int t913) (ty := .int) (C := RX12) (T := TX12) (N := 48) hx hb hg inC12 tyX12 tyX12_ok nmX12 hown hK hP hD hS 0 rfl rfl 22 (by decide) (hg _ wt5_182) (fun _ h9 => h9) rfl (by decide +kernel) rfl rfl (Nat.le_of_ble_eq_true rfl) dX12_tells_231 (fun H locs hP hD hS => ?_)
                  have hP : va_P D vwCl (mW K o r (upd f_912 22 t913) a_778 g) H := hP
                  have hD : va_D A (mW K o r (upd f_912 22 t913) a_778 g) := hD
                  refine k_gen (P := fun z => va_P D vwCl (mW K o r z a_778 g) H ∧ va_D A (mW K o r z a_778 g) ∧ (mI z a_778) ∧ (mE (XR []) f a z a_778) ∧ (mZ [22, 23, 24, 25] [26] f a z a_778) ∧ (eS z a_778 t false)) (upd f_912 22 t913) ⟨hP, hD, (mI_f hI (fI_st hI.1 22 (kb_any _) (by decide) (by decide))), (mE_f hE (by decide)), (mZ_f hZ rfl), (eS_f hk0 (by decide) (by decide))⟩ (fun f_916 ef_916 hq => ?_)
                  obtain ⟨hP, hD, hI, hE, hZ, hk0⟩ := hq
                  refine lv_iload hx hb dX12_tells_234 (lv_at hl 0 rfl) ?_
                  refine lv_iconst (v := 4) hx hb dX12_tells_236 (by decide) ?_
                  refine lv_icmp_ne (tgt := 244) hx hb dX12_tells_237 (by decide) (fun c917 => ?_) (fun c917 => ?_)
                  · refine lv_aload_n hx hb dX12_tells_244 rfl (lv_at hl 2 rfl) ?_
                    refine lv_iconst (v := 1) hx hb dX12_tells_245 (by decide) ?_
                    refine kL.callV (As := [.int 1]) (rest := []) ⟨hx, hb, hml, hown, hg⟩ ((n_allSum 8) l o r f_916 a_778 g hI 1 (kb_w kc_1 (by decide) (by decide)) t (i + 1) (jj) false T (lwW (a 2) bd pt) ((DD (a 2 106).toInt.toNat).2.2.2.2.1 cc) hk0 (by rw [(show f_916 22 = t913 from kn7_u1 ef_916 rfl)]; exact hg915) hp2 (hp3 f_916) hs) (cwV 1 hg (kgV wt7_51 wt7_53 wp5_9 wt1_14 wt7_54) rfl rfl rfl (by decide +kernel) ⟨by decide, by decide⟩) hK hP hD hS hA mIs [] rfl (wr := []) rfl rfl rfl (fun i h => by cases h) 0 12 rfl rfl rfl hl.1 rfl (Nat.le_of_ble_eq_true rfl) dX12_tells_246 ⟨Nat.le_refl _, Nat.le_refl _⟩ (fun v919 u920 H locs hw918 hP hD hS => ?_)
                    have hP : va_P D vwCl (mW K o r u920 a_778 g) H := hP
                    have hD : va_D A (mW K o r u920 a_778 g) := hD
                    have hI : mI u920 a_778 := hw918.2.1
                    have eE921 : fE [22, 24] f_916 u920 := hw918.2.2.1
                    have hE : mE (XR []) f a u920 a_778 := mE_fE hE eE921 (by decide)
                    have hZ : mZ [22, 23, 24, 25] [26] f a u920 a_778 := mZ_fE hZ (fE_w (by decide) eE921)
                    have hk0 : eS u920 a_778 t false := eS_fE eE921 hk0 (by decide) (by decide)
                    obtain ⟨gv922, egv922⟩ : ∃ z : Int32, z = u920 22 := ⟨_, rfl⟩
                    have hg923 : gv922.toInt = 400 * (t : Int) + ((jj : Nat) : Int) := by rw [egv922]; exact hw918.2.2.2.1
                    have b924 : kb 0 gv922 2801 := kb_go1 hk0 (by have w1 := hk0.2.2.2.2; omega) hg923
                    obtain ⟨bq925, ebq925⟩ : ∃ z : Int32, z = u920 24 := ⟨_, rfl⟩
                    have b926 : kb 0 bq925 1 := kb_eq ebq925 (fI_at hI.1 24 (by decide) (by decide))
                    have hr927 : mRs 1 0 (((DD (a 2 106).toInt.toNat).2.2.2.2.1 cc) (lwW (a 2) bd pt)) bq925 v919.toInt := by have w1 := hw918.2.2.2.2; rw [((show f_916 24 = f_912 24 from kn7_u1 ef_916 rfl).trans (show f_912 24 = 0 from kn7_u1 ef_912 rfl)), ← ebq925] at w1; exact w1
                    refine lv_lstore (lv' := [(9, .long v919), (8, .int 1), (6, .long y792), (0, .ref o), (1, .int hd), (2, .int bd), (3, .int pt), (4, .int hi), (5, .int wo)]) hx hb dX12_tells_249 hl (by decide) rfl (fun ls hl => ?_)
                    refine lv_aload_n hx hb dX12_tells_251 rfl (lv_at hl 3 rfl) ?_
                    refine va_get (D := D) (ci := 12) (v := .int (u920 24)) (C := RX12) (T := TX12) (N := 48) hx hb hg inC12 hown hK hP 0 rfl rfl 24 (by decide) (hg _ wt5_184) (fun _ h9 => h9) rfl dX12_tells_252 ?_
                    refine k_top (z := bq925) ebq925.symm ?_
                    refine lv_istore (lv' := [(11, .int bq925), (9, .long v919), (8, .int 1), (6, .long y792), (0, .ref o), (1, .int hd), (2, .int bd), (3, .int pt), (4, .int hi), (5, .int wo)]) hx hb dX12_tells_255 hl (by decide) rfl (fun ls hl => ?_)
                    refine lv_aload_n hx hb dX12_tells_257 rfl (lv_at hl 4 rfl) ?_
                    refine lv_iconst (v := 0) hx hb dX12_tells_258 (by decide) ?_
                    refine va_put (D := D) (ci := 12) (v := .int 0) (ty := .boolean) (C := RX12) (T := TX12) (N := 48) hx hb hg inC12 tyX12 tyX12_ok nmX12 hown hK hP hD hS 0 rfl rfl 24 (by decide) (hg _ wt5_184) (fun _ h9 => h9) rfl (by decide +kernel) rfl rfl (Nat.le_of_ble_eq_true rfl) dX12_tells_259 (fun H locs hP hD hS => ?_)
                    have hP : va_P D vwCl (mW K o r (upd u920 24 0) a_778 g) H := hP
                    have hD : va_D A (mW K o r (upd u920 24 0) a_778 g) := hD
                    refine k_gen (P := fun z => va_P D vwCl (mW K o r z a_778 g) H ∧ va_D A (mW K o r z a_778 g) ∧ (mI z a_778) ∧ (mE (XR []) f a z a_778) ∧ (mZ [22, 23, 24, 25] [26] f a z a_778) ∧ (eS z a_778 t false)) (upd u920 24 0) ⟨hP, hD, (mI_f hI (fI_st hI.1 24 kc_0 (by decide) (by decide))), (mE_f hE (by decide)), (mZ_f hZ rfl), (eS_f hk0 (by decide) (by decide))⟩ (fun f_928 ef_928 hq => ?_)
                    obtain ⟨hP, hD, hI, hE, hZ, hk0⟩ := hq
                    refine lv_aload_n hx hb dX12_tells_262 rfl (lv_at hl 4 rfl) ?_
                    refine lv_iconst (v := 5) hx hb dX12_tells_263 (by decide) ?_
                    refine kI.callV (As := [.int 5]) (rest := []) ⟨hx, hb, hml, hown, hg⟩ (m_passes0 l o r f_928 a_778 g hI 5 (kb_w kc_5 (by decide) (by decide)) t (jj) false hk0 (by rw [((show f_928 22 = u920 22 from kn7_u1 ef_928 rfl).trans egv922.symm)]; exact hg923)) (cwV 1 hg (kgV wt7_63 wt7_65 wp5_12 wt1_14 wt7_66) rfl rfl rfl (by decide +kernel) ⟨by decide, by decide⟩) hK hP hD hS hA mIs [] rfl (wr := []) rfl rfl rfl (fun i h => by cases h) 0 12 rfl rfl rfl hl.1 rfl (Nat.le_of_ble_eq_true rfl) dX12_tells_264 ⟨Nat.le_refl _, Nat.le_refl _⟩ (fun v930 u931 H locs hw929 hP hD hS => ?_)
                    have hP : va_P D vwCl (mW K o r u931 a_778 g) H := hP
                    have hD : va_D A (mW K o r u931 a_778 g) := hD
                    have hI : mI u931 a_778 := hw929.2.1
                    have eE932 : fE [22] f_928 u931 := hw929.2.2.1
                    have hE : mE (XR []) f a u931 a_778 := mE_fE hE eE932 (by decide)
                    have hZ : mZ [22, 23, 24, 25] [26] f a u931 a_778 := mZ_fE hZ (fE_w (by decide) eE932)
                    have hk0 : eS u931 a_778 t false := eS_fE eE932 hk0 (by decide) (by decide)
                    have hz933 := pass_n hw929.2.2.2 (tq_n hp2 (x := 5) (y := 2003) (by decide +kernel) (by decide +kernel) h2)
                    refine k_top (z := 0) hz933.1 ?_
                    obtain ⟨gv934, egv934⟩ : ∃ z : Int32, z = u931 22 := ⟨_, rfl⟩
                    have hg935 : gv934.toInt = 400 * (t : Int) + ((jj : Nat) : Int) := by rw [egv934]; exact hz933.2
                    have b936 : kb 0 gv934 2801 := kb_go1 hk0 (by have w1 := hk0.2.2.2.2; omega) hg935
                    refine lv_if_eq (tgt := 278) hx hb dX12_tells_267 (by decide) (fun c937 => ?_) (fun c937 => ?_)
                    · refine lv_iconst (v := 1) hx hb dX12_tells_278 (by decide) ?_
                      refine lv_goto (tgt := 283) hx hb dX12_tells_279 (by decide) ?_
                      refine lv_istore (lv' := [(12, .int 1), (11, .int bq925), (9, .long v919), (8, .int 1), (6, .long y792), (0, .ref o), (1, .int hd), (2, .int bd), (3, .int pt), (4, .int hi), (5, .int wo)]) hx hb dX12_tells_283 hl (by decide) rfl (fun ls hl => ?_)
                      refine lv_iload hx hb dX12_tells_285 (lv_at hl 3 rfl) ?_
                      refine lv_iload_n hx hb dX12_tells_287 rfl (lv_at hl 6 rfl) ?_
                      refine lv_icmp_ne (tgt := 338) hx hb dX12_tells_288 (by decide) (fun c938 => ?_) (fun c938 => ?_)
                      · refine lv_aload_n hx hb dX12_tells_338 rfl (lv_at hl 5 rfl) ?_
                        refine lv_dup hx hb dX12_tells_339 rfl ?_
                        refine va_get (D := D) (ci := 12) (v := .int (u931 22)) (C := RX12) (T := TX12) (N := 48) hx hb hg inC12 hown hK hP 0 rfl rfl 22 (by decide) (hg _ wt5_182) (fun _ h9 => h9) rfl dX12_tells_340 ?_
                        refine k_top (z := gv934) egv934.symm ?_
                        refine lv_iconst (v := 1) hx hb dX12_tells_343 (by decide) ?_
                        refine lv_iadd hx hb dX12_tells_344 ?_
                        refine lv_topi (fun t939 et939 => ?_)
                        have b940 : kb 1 t939 2802 := kb_eq et939 (kb_add b936 kc_1 (by decide) (by decide))
                        have qt939 : t939.toInt = gv934.toInt + 1 := by rw [et939]; exact kt_addc b936 kc_1 (by decide) (by decide)
                        have hg941 : t939.toInt = 400 * (t : Int) + ((jj + 1 : Nat) : Int) := by first | exact kn7_go qt939 hg935 | (rw [qt939, hg935]; omega)
                        refine va_put (D := D) (ci := 12) (v := .int t939) (ty := .int) (C := RX12) (T := TX12) (N := 48) hx hb hg inC12 tyX12 tyX12_ok nmX12 hown hK hP hD hS 0 rfl rfl 22 (by decide) (hg _ wt5_182) (fun _ h9 => h9) rfl (by decide +kernel) rfl rfl (Nat.le_of_ble_eq_true rfl) dX12_tells_345 (fun H locs hP hD hS => ?_)
                        have hP : va_P D vwCl (mW K o r (upd u931 22 t939) a_778 g) H := hP
                        have hD : va_D A (mW K o r (upd u931 22 t939) a_778 g) := hD
                        refine k_gen (P := fun z => va_P D vwCl (mW K o r z a_778 g) H ∧ va_D A (mW K o r z a_778 g) ∧ (mI z a_778) ∧ (mE (XR []) f a z a_778) ∧ (mZ [22, 23, 24, 25] [26] f a z a_778) ∧ (eS z a_778 t false)) (upd u931 22 t939) ⟨hP, hD, (mI_f hI (fI_st hI.1 22 (kb_any _) (by decide) (by decide))), (mE_f hE (by decide)), (mZ_f hZ rfl), (eS_f hk0 (by decide) (by decide))⟩ (fun f_942 ef_942 hq => ?_)
                        obtain ⟨hP, hD, hI, hE, hZ, hk0⟩ := hq
                        refine lv_goto (tgt := 198) hx hb dX12_tells_348 (by decide) ?_
                        exact ihlp794 (jj + 1) (cc + 1) f_942 _ _ _ y792 (by first | exact kn7_ml hmlp794 | (have w1 := hmlp794; omega)) hI hE hZ hk0 b796 (by rw [(show f_942 22 = t939 from kn7_u1 ef_942 rfl)]; exact hg941) (hnx.elim (fun q => Or.inl ⟨q.1, q.2.2.symm⟩) (fun q => Or.inr ⟨q.1, by first | exact kn7_sl q.2 | (have w1 := q.2; omega)⟩)) (by rw [lastOf_s, ct_n (fun q => c938 (Int32.toInt_inj.mp (by first | exact (kHd_j (hhk.symm.trans q) bhd).trans (by decide +kernel) | (have w1 := kHd_j (hhk.symm.trans q) bhd; have w2 : (1 : Int32).toInt = 1 := (by decide +kernel); omega))))]; exact htd) (by first | exact Nat.succ_le_of_lt hcs.1 | (have w1 := hcs.1; omega)) hP hD hS (lv_sub hl [4, 5, 6, 7, 8, 9, 10] rfl)
                      · have b943 : kb 1 hd 1 := kb_eq c938.symm kc_1
                        refine lv_iload hx hb dX12_tells_291 (lv_at hl 0 rfl) ?_
                        refine lv_if_eq (tgt := 338) hx hb dX12_tells_293 (by decide) (fun c944 => ?_) (fun c944 => ?_)
                        · exact kb_dj c944 kc_1 kc_0 (by decide)
                        · refine lv_aload_n hx hb dX12_tells_296 rfl (lv_at hl 5 rfl) ?_
                          refine va_get (D := D) (ci := 12) (v := .int (u931 24)) (C := RX12) (T := TX12) (N := 48) hx hb hg inC12 hown hK hP 0 rfl rfl 24 (by decide) (hg _ wt5_184) (fun _ h9 => h9) rfl dX12_tells_297 ?_
                          refine k_top (z := 0) ((eE932 24 (by decide)).trans (show f_928 24 = 0 from kn7_u1 ef_928 rfl)) ?_
                          refine lv_if_ne (tgt := 338) hx hb dX12_tells_300 (by decide) (fun c945 => ?_) (fun c945 => ?_)
                          · exact kb_nsame c945 kc_0 kc_0
                          · refine lv_iload hx hb dX12_tells_303 (lv_at hl 1 rfl) ?_
                            refine lv_if_ne (tgt := 338) hx hb dX12_tells_305 (by decide) (fun c946 => ?_) (fun c946 => ?_)
                            · have b947 : kb 1 bq925 1 := kr_nel c946 b926 kc_0 (by decide)
                              refine lv_aload_n hx hb dX12_tells_338 rfl (lv_at hl 5 rfl) ?_
                              refine lv_dup hx hb dX12_tells_339 rfl ?_
                              refine va_get (D := D) (ci := 12) (v := .int (u931 22)) (C := RX12) (T := TX12) (N := 48) hx hb hg inC12 hown hK hP 0 rfl rfl 22 (by decide) (hg _ wt5_182) (fun _ h9 => h9) rfl dX12_tells_340 ?_
                              refine k_top (z := gv934) egv934.symm ?_
                              refine lv_iconst (v := 1) hx hb dX12_tells_343 (by decide) ?_
                              refine lv_iadd hx hb dX12_tells_344 ?_
                              refine lv_topi (fun t948 et948 => ?_)
                              have b949 : kb 1 t948 2802 := kb_eq et948 (kb_add b936 kc_1 (by decide) (by decide))
                              have qt948 : t948.toInt = gv934.toInt + 1 := by rw [et948]; exact kt_addc b936 kc_1 (by decide) (by decide)
                              have hg950 : t948.toInt = 400 * (t : Int) + ((jj + 1 : Nat) : Int) := by first | exact kn7_go qt948 hg935 | (rw [qt948, hg935]; omega)
                              refine va_put (D := D) (ci := 12) (v := .int t948) (ty := .int) (C := RX12) (T := TX12) (N := 48) hx hb hg inC12 tyX12 tyX12_ok nmX12 hown hK hP hD hS 0 rfl rfl 22 (by decide) (hg _ wt5_182) (fun _ h9 => h9) rfl (by decide +kernel) rfl rfl (Nat.le_of_ble_eq_true rfl) dX12_tells_345 (fun H locs hP hD hS => ?_)
                              have hP : va_P D vwCl (mW K o r (upd u931 22 t948) a_778 g) H := hP
                              have hD : va_D A (mW K o r (upd u931 22 t948) a_778 g) := hD
                              refine k_gen (P := fun z => va_P D vwCl (mW K o r z a_778 g) H ∧ va_D A (mW K o r z a_778 g) ∧ (mI z a_778) ∧ (mE (XR []) f a z a_778) ∧ (mZ [22, 23, 24, 25] [26] f a z a_778) ∧ (eS z a_778 t false)) (upd u931 22 t948) ⟨hP, hD, (mI_f hI (fI_st hI.1 22 (kb_any _) (by decide) (by decide))), (mE_f hE (by decide)), (mZ_f hZ rfl), (eS_f hk0 (by decide) (by decide))⟩ (fun f_951 ef_951 hq => ?_)
                              obtain ⟨hP, hD, hI, hE, hZ, hk0⟩ := hq
                              refine lv_goto (tgt := 198) hx hb dX12_tells_348 (by decide) ?_
                              exact ihlp794 (jj + 1) (cc + 1) f_951 _ _ _ y792 (by first | exact kn7_ml hmlp794 | (have w1 := hmlp794; omega)) hI hE hZ hk0 b796 (by rw [(show f_951 22 = t948 from kn7_u1 ef_951 rfl)]; exact hg950) (hnx.elim (fun q => Or.inl ⟨q.1, q.2.2.symm⟩) (fun q => Or.inr ⟨q.1, by first | exact kn7_sl q.2 | (have w1 := q.2; omega)⟩)) (by rw [lastOf_s, ct_b (mr_n hr927 c946)]; exact htd) (by first | exact Nat.succ_le_of_lt hcs.1 | (have w1 := hcs.1; omega)) hP hD hS (lv_sub hl [4, 5, 6, 7, 8, 9, 10] rfl)
                            · have b952 : kb 0 bq925 0 := kb_eq c946 kc_0
                              refine lv_lload hx hb dX12_tells_308 (lv_at hl 2 rfl) ?_
                              refine lv_lconst (v := 0) hx hb dX12_tells_310 (by decide) ?_
                              refine W.lcmp hx hb dX12_tells_311 ?_
                              refine lv_topi (fun t953 et953 => ?_)
                              refine lv_if_ge (tgt := 319) hx hb dX12_tells_312 (by decide) (fun c954 => ?_) (fun c954 => ?_)
                              · have h955 := klc_ge (et953 ▸ c954)
                                have b956 : kbl 0 v919 9223372036854775807 := klr_le2 h955 kcl_0 (kbl_any v919)
                                refine lv_lload hx hb dX12_tells_319 (lv_at hl 2 rfl) ?_
                                refine lv_iload hx hb dX12_tells_321 (lv_at hl 9 rfl) ?_
                                refine lv_i2l hx hb dX12_tells_323 rfl ?_
                                refine lv_topl (fun t957 et957 => ?_)
                                have b958 : kbl 0 t957 20 := kbl_eq et957 (kbl_i2l bhi)
                                refine W.lcmp hx hb dX12_tells_324 ?_
                                refine lv_topi (fun t959 et959 => ?_)
                                refine lv_if_le (tgt := 334) hx hb dX12_tells_325 (by decide) (fun c960 => ?_) (fun c960 => ?_)
                                · have h961 := klc_le (et959 ▸ c960)
                                  have b962 : kbl 0 v919 20 := klr_le1 h961 b956 b958
                                  refine lv_lload hx hb dX12_tells_334 (lv_at hl 2 rfl) ?_
                                  refine lv_lstore (lv' := [(6, .long v919), (12, .int 1), (11, .int bq925), (9, .long v919), (8, .int 1), (0, .ref o), (1, .int hd), (2, .int bd), (3, .int pt), (4, .int hi), (5, .int wo)]) hx hb dX12_tells_336 hl (by decide) rfl (fun ls hl => ?_)
                                  refine lv_aload_n hx hb dX12_tells_338 rfl (lv_at hl 5 rfl) ?_
                                  refine lv_dup hx hb dX12_tells_339 rfl ?_
                                  refine va_get (D := D) (ci := 12) (v := .int (u931 22)) (C := RX12) (T := TX12) (N := 48) hx hb hg inC12 hown hK hP 0 rfl rfl 22 (by decide) (hg _ wt5_182) (fun _ h9 => h9) rfl dX12_tells_340 ?_
                                  refine k_top (z := gv934) egv934.symm ?_
                                  refine lv_iconst (v := 1) hx hb dX12_tells_343 (by decide) ?_
                                  refine lv_iadd hx hb dX12_tells_344 ?_
                                  refine lv_topi (fun t963 et963 => ?_)
                                  have b964 : kb 1 t963 2802 := kb_eq et963 (kb_add b936 kc_1 (by decide) (by decide))
                                  have qt963 : t963.toInt = gv934.toInt + 1 := by rw [et963]; exact kt_addc b936 kc_1 (by decide) (by decide)
                                  have hg965 : t963.toInt = 400 * (t : Int) + ((jj + 1 : Nat) : Int) := by first | exact kn7_go qt963 hg935 | (rw [qt963, hg935]; omega)
                                  refine va_put (D := D) (ci := 12) (v := .int t963) (ty := .int) (C := RX12) (T := TX12) (N := 48) hx hb hg inC12 tyX12 tyX12_ok nmX12 hown hK hP hD hS 0 rfl rfl 22 (by decide) (hg _ wt5_182) (fun _ h9 => h9) rfl (by decide +kernel) rfl rfl (Nat.le_of_ble_eq_true rfl) dX12_tells_345 (fun H locs hP hD hS => ?_)
                                  have hP : va_P D vwCl (mW K o r (upd u931 22 t963) a_778 g) H := hP
                                  have hD : va_D A (mW K o r (upd u931 22 t963) a_778 g) := hD
                                  refine k_gen (P := fun z => va_P D vwCl (mW K o r z a_778 g) H ∧ va_D A (mW K o r z a_778 g) ∧ (mI z a_778) ∧ (mE (XR []) f a z a_778) ∧ (mZ [22, 23, 24, 25] [26] f a z a_778) ∧ (eS z a_778 t false)) (upd u931 22 t963) ⟨hP, hD, (mI_f hI (fI_st hI.1 22 (kb_any _) (by decide) (by decide))), (mE_f hE (by decide)), (mZ_f hZ rfl), (eS_f hk0 (by decide) (by decide))⟩ (fun f_966 ef_966 hq => ?_)
                                  obtain ⟨hP, hD, hI, hE, hZ, hk0⟩ := hq
                                  refine lv_goto (tgt := 198) hx hb dX12_tells_348 (by decide) ?_
                                  exact ihlp794 (jj + 1) (cc + 1) f_966 _ _ _ v919 (by first | exact kn7_ml hmlp794 | (have w1 := hmlp794; omega)) hI hE hZ hk0 b962 (by rw [(show f_966 22 = t963 from kn7_u1 ef_966 rfl)]; exact hg965) (hnx.elim (fun q => Or.inl ⟨q.1, q.2.2.symm⟩) (fun q => Or.inr ⟨q.1, by first | exact kn7_sl q.2 | (have w1 := q.2; omega)⟩)) (by rw [lastOf_s, ct_y (hhk.trans (by rw [← c938]; decide +kernel)) (by rw [hv3]; rfl) (mr_s hr927 c946)]; show (v919 : Int64).toInt = max 0 (min hi.toInt (v919.toInt)); have w0 := bhi.1; have k0 : (0 : Int64).toInt = 0 := (by decide +kernel); have k1 : (1 : Int64).toInt = 1 := (by decide +kernel); have k9t957 : t957.toInt = hi.toInt := (congrArg Int64.toInt et957).trans (kt_i2l _); omega) (by first | exact Nat.succ_le_of_lt hcs.1 | (have w1 := hcs.1; omega)) hP hD hS (lv_sub hl [0, 5, 6, 7, 8, 9, 10] rfl)
                                · have h967 := klc_nle (et959 ▸ c960)
                                  have b968 : kbl 1 v919 9223372036854775807 := klr_lt2 h967 b958 b956 (by decide)
                                  refine lv_iload hx hb dX12_tells_328 (lv_at hl 9 rfl) ?_
                                  refine lv_i2l hx hb dX12_tells_330 rfl ?_
                                  refine lv_topl (fun t969 et969 => ?_)
                                  have b970 : kbl 0 t969 20 := kbl_eq et969 (kbl_i2l bhi)
                                  refine lv_goto (tgt := 336) hx hb dX12_tells_331 (by decide) ?_
                                  refine lv_lstore (lv' := [(6, .long t969), (12, .int 1), (11, .int bq925), (9, .long v919), (8, .int 1), (0, .ref o), (1, .int hd), (2, .int bd), (3, .int pt), (4, .int hi), (5, .int wo)]) hx hb dX12_tells_336 hl (by decide) rfl (fun ls hl => ?_)
                                  refine lv_aload_n hx hb dX12_tells_338 rfl (lv_at hl 5 rfl) ?_
                                  refine lv_dup hx hb dX12_tells_339 rfl ?_
                                  refine va_get (D := D) (ci := 12) (v := .int (u931 22)) (C := RX12) (T := TX12) (N := 48) hx hb hg inC12 hown hK hP 0 rfl rfl 22 (by decide) (hg _ wt5_182) (fun _ h9 => h9) rfl dX12_tells_340 ?_
                                  refine k_top (z := gv934) egv934.symm ?_
                                  refine lv_iconst (v := 1) hx hb dX12_tells_343 (by decide) ?_
                                  refine lv_iadd hx hb dX12_tells_344 ?_
                                  refine lv_topi (fun t971 et971 => ?_)
                                  have b972 : kb 1 t971 2802 := kb_eq et971 (kb_add b936 kc_1 (by decide) (by decide))
                                  have qt971 : t971.toInt = gv934.toInt + 1 := by rw [et971]; exact kt_addc b936 kc_1 (by decide) (by decide)
                                  have hg973 : t971.toInt = 400 * (t : Int) + ((jj + 1 : Nat) : Int) := by first | exact kn7_go qt971 hg935 | (rw [qt971, hg935]; omega)
                                  refine va_put (D := D) (ci := 12) (v := .int t971) (ty := .int) (C := RX12) (T := TX12) (N := 48) hx hb hg inC12 tyX12 tyX12_ok nmX12 hown hK hP hD hS 0 rfl rfl 22 (by decide) (hg _ wt5_182) (fun _ h9 => h9) rfl (by decide +kernel) rfl rfl (Nat.le_of_ble_eq_true rfl) dX12_tells_345 (fun H locs hP hD hS => ?_)
                                  have hP : va_P D vwCl (mW K o r (upd u931 22 t971) a_778 g) H := hP
                                  have hD : va_D A (mW K o r (upd u931 22 t971) a_778 g) := hD
                                  refine k_gen (P := fun z => va_P D vwCl (mW K o r z a_778 g) H ∧ va_D A (mW K o r z a_778 g) ∧ (mI z a_778) ∧ (mE (XR []) f a z a_778) ∧ (mZ [22, 23, 24, 25] [26] f a z a_778) ∧ (eS z a_778 t false)) (upd u931 22 t971) ⟨hP, hD, (mI_f hI (fI_st hI.1 22 (kb_any _) (by decide) (by decide))), (mE_f hE (by decide)), (mZ_f hZ rfl), (eS_f hk0 (by decide) (by decide))⟩ (fun f_974 ef_974 hq => ?_)
                                  obtain ⟨hP, hD, hI, hE, hZ, hk0⟩ := hq
                                  refine lv_goto (tgt := 198) hx hb dX12_tells_348 (by decide) ?_
                                  exact ihlp794 (jj + 1) (cc + 1) f_974 _ _ _ t969 (by first | exact kn7_ml hmlp794 | (have w1 := hmlp794; omega)) hI hE hZ hk0 b970 (by rw [(show f_974 22 = t971 from kn7_u1 ef_974 rfl)]; exact hg973) (hnx.elim (fun q => Or.inl ⟨q.1, q.2.2.symm⟩) (fun q => Or.inr ⟨q.1, by first | exact kn7_sl q.2 | (have w1 := q.2; omega)⟩)) (by rw [lastOf_s, ct_y (hhk.trans (by rw [← c938]; decide +kernel)) (by rw [hv3]; rfl) (mr_s hr927 c946)]; show (t969 : Int64).toInt = max 0 (min hi.toInt (v919.toInt)); have w0 := bhi.1; have k0 : (0 : Int64).toInt = 0 := (by decide +kernel); have k1 : (1 : Int64).toInt = 1 := (by decide +kernel); have k9 : t969.toInt = hi.toInt := (congrArg Int64.toInt et969).trans (kt_i2l _); have k9t957 : t957.toInt = hi.toInt := (congrArg Int64.toInt et957).trans (kt_i2l _); have k9t969 : t969.toInt = hi.toInt := (congrArg Int64.toInt et969).trans (kt_i2l _); omega) (by first | exact Nat.succ_le_of_lt hcs.1 | (have w1 := hcs.1; omega)) hP hD hS (lv_sub hl [0, 5, 6, 7, 8, 9, 10] rfl)
                              · have h975 := klc_nge (et953 ▸ c954)
                                have b976 : kbl (-9223372036854775808) v919 (-1) := klr_lt1 h975 (kbl_any v919) kcl_0 (by decide)
                                refine lv_lconst (v := 0) hx hb dX12_tells_315 (by decide) ?_
                                refine lv_goto (tgt := 336) hx hb dX12_tells_316 (by decide) ?_
                                refine lv_lstore (lv' := [(6, .long 0), (12, .int 1), (11, .int bq925), (9, .long v919), (8, .int 1), (0, .ref o), (1, .int hd), (2, .int bd), (3, .int pt), (4, .int hi), (5, .int wo)]) hx hb dX12_tells_336 hl (by decide) rfl (fun ls hl => ?_)
                                refine lv_aload_n hx hb dX12_tells_338 rfl (lv_at hl 5 rfl) ?_
                                refine lv_dup hx hb dX12_tells_339 rfl ?_
                                refine va_get (D := D) (ci := 12) (v := .int (u931 22)) (C := RX12) (T := TX12) (N := 48) hx hb hg inC12 hown hK hP 0 rfl rfl 22 (by decide) (hg _ wt5_182) (fun _ h9 => h9) rfl dX12_tells_340 ?_
                                refine k_top (z := gv934) egv934.symm ?_
                                refine lv_iconst (v := 1) hx hb dX12_tells_343 (by decide) ?_
                                refine lv_iadd hx hb dX12_tells_344 ?_
                                refine lv_topi (fun t977 et977 => ?_)
                                have b978 : kb 1 t977 2802 := kb_eq et977 (kb_add b936 kc_1 (by decide) (by decide))
                                have qt977 : t977.toInt = gv934.toInt + 1 := by rw [et977]; exact kt_addc b936 kc_1 (by decide) (by decide)
                                have hg979 : t977.toInt = 400 * (t : Int) + ((jj + 1 : Nat) : Int) := by first | exact kn7_go qt977 hg935 | (rw [qt977, hg935]; omega)
                                refine va_put (D := D) (ci := 12) (v := .int t977) (ty := .int) (C := RX12) (T := TX12) (N := 48) hx hb hg inC12 tyX12 tyX12_ok nmX12 hown hK hP hD hS 0 rfl rfl 22 (by decide) (hg _ wt5_182) (fun _ h9 => h9) rfl (by decide +kernel) rfl rfl (Nat.le_of_ble_eq_true rfl) dX12_tells_345 (fun H locs hP hD hS => ?_)
                                have hP : va_P D vwCl (mW K o r (upd u931 22 t977) a_778 g) H := hP
                                have hD : va_D A (mW K o r (upd u931 22 t977) a_778 g) := hD
                                refine k_gen (P := fun z => va_P D vwCl (mW K o r z a_778 g) H ∧ va_D A (mW K o r z a_778 g) ∧ (mI z a_778) ∧ (mE (XR []) f a z a_778) ∧ (mZ [22, 23, 24, 25] [26] f a z a_778) ∧ (eS z a_778 t false)) (upd u931 22 t977) ⟨hP, hD, (mI_f hI (fI_st hI.1 22 (kb_any _) (by decide) (by decide))), (mE_f hE (by decide)), (mZ_f hZ rfl), (eS_f hk0 (by decide) (by decide))⟩ (fun f_980 ef_980 hq => ?_)
                                obtain ⟨hP, hD, hI, hE, hZ, hk0⟩ := hq
                                refine lv_goto (tgt := 198) hx hb dX12_tells_348 (by decide) ?_
                                exact ihlp794 (jj + 1) (cc + 1) f_980 _ _ _ 0 (by first | exact kn7_ml hmlp794 | (have w1 := hmlp794; omega)) hI hE hZ hk0 (kbl_w kcl_0 (by decide) (by decide)) (by rw [(show f_980 22 = t977 from kn7_u1 ef_980 rfl)]; exact hg979) (hnx.elim (fun q => Or.inl ⟨q.1, q.2.2.symm⟩) (fun q => Or.inr ⟨q.1, by first | exact kn7_sl q.2 | (have w1 := q.2; omega)⟩)) (by rw [lastOf_s, ct_y (hhk.trans (by rw [← c938]; decide +kernel)) (by rw [hv3]; rfl) (mr_s hr927 c946)]; show (0 : Int64).toInt = max 0 (min hi.toInt (v919.toInt)); have w0 := bhi.1; have k0 : (0 : Int64).toInt = 0 := (by decide +kernel); have k1 : (1 : Int64).toInt = 1 := (by decide +kernel); omega) (by first | exact Nat.succ_le_of_lt hcs.1 | (have w1 := hcs.1; omega)) hP hD hS (lv_sub hl [0, 5, 6, 7, 8, 9, 10] rfl)
                    · exact kb_nsame c937 kc_0 kc_0
                  · exact kb_dj c917 kc_1 kc_4 (by decide)
            · have b981 : kb 0 gv797 2799 := kb_go hk0 (mC_lt hk0 (ne_0 (tq_y hp2 (x := 2) (y := 2005) (by decide +kernel) (by decide +kernel) h1) (by decide +kernel))) hg798
              have hhk : (DD (a 2 106).toInt.toNat).2.2.1 cc = kHd 1 := hhd.trans (h1.trans (by decide +kernel))
              rcases hif with ⟨h2, h3⟩ | ⟨h2, hj, hv3⟩
              · refine lv_aload_n hx hb dX12_tells_198 rfl (lv_at hl 1 rfl) ?_
                refine va_get (D := D) (ci := 12) (v := .int (F793 22)) (C := RX12) (T := TX12) (N := 48) hx hb hg inC12 hown hK hP 0 rfl rfl 22 (by decide) (hg _ wt5_182) (fun _ h9 => h9) rfl dX12_tells_199 ?_
                refine k_top (z := gv797) egv797.symm ?_
                refine lv_aload_n hx hb dX12_tells_202 rfl (lv_at hl 1 rfl) ?_
                refine va_get (D := D) (ci := 12) (v := .int (F793 23)) (C := RX12) (T := TX12) (N := 48) hx hb hg inC12 hown hK hP 0 rfl rfl 23 (by decide) (hg _ wt5_183) (fun _ h9 => h9) rfl dX12_tells_203 ?_
                refine lv_topi (fun t982 et982 => ?_)
                refine lv_icmp_ge (tgt := 351) hx hb dX12_tells_206 (by decide) (fun c983 => ?_) (fun c983 => ?_)
                · exact absurd (kc_le c983) (by have w1 := congrArg Int32.toInt et982.symm; have w2 := hk0.2.1; have w3 := hg798; have w4 := mC_lS hk0 (ne_0 (tq_y hp2 (x := 2) (y := 2005) (by decide +kernel) (by decide +kernel) h1) (by decide +kernel)); omega)
                · have h984 := (kc_nle c983)
                  have b985 : kb 1 t982 2147483647 := kr_lt2 h984 b981 (kb_any t982) (by decide)
                  refine lv_aload_n hx hb dX12_tells_209 rfl (lv_at hl 1 rfl) ?_
                  refine lv_aload_n hx hb dX12_tells_210 rfl (lv_at hl 1 rfl) ?_
                  refine va_get (D := D) (ci := 12) (v := .int (F793 22)) (C := RX12) (T := TX12) (N := 48) hx hb hg inC12 hown hK hP 0 rfl rfl 22 (by decide) (hg _ wt5_182) (fun _ h9 => h9) rfl dX12_tells_211 ?_
                  refine k_top (z := gv797) egv797.symm ?_
                  refine kI.callV (As := [.int gv797]) (rest := []) ⟨hx, hb, hml, hown, hg⟩ (m_codeAt l o r F793 a_778 g hI gv797  t (i) false hk0 hg798) (cwV 1 hg (kgV wt7_47 wt7_49 wp5_8 wt1_14 wt7_50) rfl rfl rfl (by decide +kernel) ⟨by decide, by decide⟩) hK hP hD hS hA mIs [] rfl (wr := []) rfl rfl rfl (fun i h => by cases h) 0 12 rfl rfl rfl hl.1 rfl (Nat.le_of_ble_eq_true rfl) dX12_tells_214 ⟨Nat.le_refl _, Nat.le_refl _⟩ (fun v987 u988 H locs hw986 hP hD hS => ?_)
                  have hP : va_P D vwCl (mW K o r F793 a_778 g) H := hP
                  have hD : va_D A (mW K o r F793 a_778 g) := hD
                  refine k_top (z := 2) (hw986.2.trans (tq_y hp2 (x := 2) (y := 2005) (by decide +kernel) (by decide +kernel) h1)) ?_
                  refine lv_istore (lv' := [(8, .int 2), (6, .long y792), (0, .ref o), (1, .int hd), (2, .int bd), (3, .int pt), (4, .int hi), (5, .int wo)]) hx hb dX12_tells_217 hl (by decide) rfl (fun ls hl => ?_)
                  refine lv_aload_n hx hb dX12_tells_219 rfl (lv_at hl 2 rfl) ?_
                  refine lv_iconst (v := 0) hx hb dX12_tells_220 (by decide) ?_
                  refine va_put (D := D) (ci := 12) (v := .int 0) (ty := .boolean) (C := RX12) (T := TX12) (N := 48) hx hb hg inC12 tyX12 tyX12_ok nmX12 hown hK hP hD hS 0 rfl rfl 24 (by decide) (hg _ wt5_184) (fun _ h9 => h9) rfl (by decide +kernel) rfl rfl (Nat.le_of_ble_eq_true rfl) dX12_tells_221 (fun H locs hP hD hS => ?_)
                  have hP : va_P D vwCl (mW K o r (upd F793 24 0) a_778 g) H := hP
                  have hD : va_D A (mW K o r (upd F793 24 0) a_778 g) := hD
                  refine k_gen (P := fun z => va_P D vwCl (mW K o r z a_778 g) H ∧ va_D A (mW K o r z a_778 g) ∧ (mI z a_778) ∧ (mE (XR []) f a z a_778) ∧ (mZ [22, 23, 24, 25] [26] f a z a_778) ∧ (eS z a_778 t false)) (upd F793 24 0) ⟨hP, hD, (mI_f hI (fI_st hI.1 24 kc_0 (by decide) (by decide))), (mE_f hE (by decide)), (mZ_f hZ rfl), (eS_f hk0 (by decide) (by decide))⟩ (fun f_989 ef_989 hq => ?_)
                  obtain ⟨hP, hD, hI, hE, hZ, hk0⟩ := hq
                  refine lv_aload_n hx hb dX12_tells_224 rfl (lv_at hl 2 rfl) ?_
                  refine lv_dup hx hb dX12_tells_225 rfl ?_
                  refine va_get (D := D) (ci := 12) (v := .int (f_989 22)) (C := RX12) (T := TX12) (N := 48) hx hb hg inC12 hown hK hP 0 rfl rfl 22 (by decide) (hg _ wt5_182) (fun _ h9 => h9) rfl dX12_tells_226 ?_
                  refine k_top (z := gv797) ((show f_989 22 = F793 22 from kn7_u1 ef_989 rfl).trans egv797.symm) ?_
                  refine lv_iconst (v := 1) hx hb dX12_tells_229 (by decide) ?_
                  refine lv_iadd hx hb dX12_tells_230 ?_
                  refine lv_topi (fun t990 et990 => ?_)
                  have b991 : kb 1 t990 2800 := kb_eq et990 (kb_add b981 kc_1 (by decide) (by decide))
                  have qt990 : t990.toInt = gv797.toInt + 1 := by rw [et990]; exact kt_addc b981 kc_1 (by decide) (by decide)
                  have hg992 : t990.toInt = 400 * (t : Int) + ((i + 1 : Nat) : Int) := by first | exact kn7_go qt990 hg798 | (rw [qt990, hg798]; omega)
                  refine va_put (D := D) (ci := 12) (v := .int t990) (ty := .int) (C := RX12) (T := TX12) (N := 48) hx hb hg inC12 tyX12 tyX12_ok nmX12 hown hK hP hD hS 0 rfl rfl 22 (by decide) (hg _ wt5_182) (fun _ h9 => h9) rfl (by decide +kernel) rfl rfl (Nat.le_of_ble_eq_true rfl) dX12_tells_231 (fun H locs hP hD hS => ?_)
                  have hP : va_P D vwCl (mW K o r (upd f_989 22 t990) a_778 g) H := hP
                  have hD : va_D A (mW K o r (upd f_989 22 t990) a_778 g) := hD
                  refine k_gen (P := fun z => va_P D vwCl (mW K o r z a_778 g) H ∧ va_D A (mW K o r z a_778 g) ∧ (mI z a_778) ∧ (mE (XR []) f a z a_778) ∧ (mZ [22, 23, 24, 25] [26] f a z a_778) ∧ (eS z a_778 t false)) (upd f_989 22 t990) ⟨hP, hD, (mI_f hI (fI_st hI.1 22 (kb_any _) (by decide) (by decide))), (mE_f hE (by decide)), (mZ_f hZ rfl), (eS_f hk0 (by decide) (by decide))⟩ (fun f_993 ef_993 hq => ?_)
                  obtain ⟨hP, hD, hI, hE, hZ, hk0⟩ := hq
                  refine lv_iload hx hb dX12_tells_234 (lv_at hl 0 rfl) ?_
                  refine lv_iconst (v := 4) hx hb dX12_tells_236 (by decide) ?_
                  refine lv_icmp_ne (tgt := 244) hx hb dX12_tells_237 (by decide) (fun c994 => ?_) (fun c994 => ?_)
                  · refine lv_aload_n hx hb dX12_tells_244 rfl (lv_at hl 2 rfl) ?_
                    refine lv_iconst (v := 1) hx hb dX12_tells_245 (by decide) ?_
                    refine kL.callV (As := [.int 1]) (rest := []) ⟨hx, hb, hml, hown, hg⟩ ((n_allSum 8) l o r f_993 a_778 g hI 1 (kb_w kc_1 (by decide) (by decide)) t (i + 1) (mm) false T (lwW (a 2) bd pt) ((DD (a 2 106).toInt.toNat).2.2.2.2.1 cc) hk0 (by rw [(show f_993 22 = t990 from kn7_u1 ef_993 rfl)]; exact hg992) hp2 (hp3 f_993) hs) (cwV 1 hg (kgV wt7_51 wt7_53 wp5_9 wt1_14 wt7_54) rfl rfl rfl (by decide +kernel) ⟨by decide, by decide⟩) hK hP hD hS hA mIs [] rfl (wr := []) rfl rfl rfl (fun i h => by cases h) 0 12 rfl rfl rfl hl.1 rfl (Nat.le_of_ble_eq_true rfl) dX12_tells_246 ⟨Nat.le_refl _, Nat.le_refl _⟩ (fun v996 u997 H locs hw995 hP hD hS => ?_)
                    have hP : va_P D vwCl (mW K o r u997 a_778 g) H := hP
                    have hD : va_D A (mW K o r u997 a_778 g) := hD
                    have hI : mI u997 a_778 := hw995.2.1
                    have eE998 : fE [22, 24] f_993 u997 := hw995.2.2.1
                    have hE : mE (XR []) f a u997 a_778 := mE_fE hE eE998 (by decide)
                    have hZ : mZ [22, 23, 24, 25] [26] f a u997 a_778 := mZ_fE hZ (fE_w (by decide) eE998)
                    have hk0 : eS u997 a_778 t false := eS_fE eE998 hk0 (by decide) (by decide)
                    obtain ⟨gv999, egv999⟩ : ∃ z : Int32, z = u997 22 := ⟨_, rfl⟩
                    have hg1000 : gv999.toInt = 400 * (t : Int) + ((mm : Nat) : Int) := by rw [egv999]; exact hw995.2.2.2.1
                    have b1001 : kb 0 gv999 2799 := kb_go hk0 (mC_lt hk0 (ne_0 (tq_y hp2 (x := 5) (y := 2003) (by decide +kernel) (by decide +kernel) h2) (by decide +kernel))) hg1000
                    obtain ⟨bq1002, ebq1002⟩ : ∃ z : Int32, z = u997 24 := ⟨_, rfl⟩
                    have b1003 : kb 0 bq1002 1 := kb_eq ebq1002 (fI_at hI.1 24 (by decide) (by decide))
                    have hr1004 : mRs 1 0 (((DD (a 2 106).toInt.toNat).2.2.2.2.1 cc) (lwW (a 2) bd pt)) bq1002 v996.toInt := by have w1 := hw995.2.2.2.2; rw [((show f_993 24 = f_989 24 from kn7_u1 ef_993 rfl).trans (show f_989 24 = 0 from kn7_u1 ef_989 rfl)), ← ebq1002] at w1; exact w1
                    refine lv_lstore (lv' := [(9, .long v996), (8, .int 2), (6, .long y792), (0, .ref o), (1, .int hd), (2, .int bd), (3, .int pt), (4, .int hi), (5, .int wo)]) hx hb dX12_tells_249 hl (by decide) rfl (fun ls hl => ?_)
                    refine lv_aload_n hx hb dX12_tells_251 rfl (lv_at hl 3 rfl) ?_
                    refine va_get (D := D) (ci := 12) (v := .int (u997 24)) (C := RX12) (T := TX12) (N := 48) hx hb hg inC12 hown hK hP 0 rfl rfl 24 (by decide) (hg _ wt5_184) (fun _ h9 => h9) rfl dX12_tells_252 ?_
                    refine k_top (z := bq1002) ebq1002.symm ?_
                    refine lv_istore (lv' := [(11, .int bq1002), (9, .long v996), (8, .int 2), (6, .long y792), (0, .ref o), (1, .int hd), (2, .int bd), (3, .int pt), (4, .int hi), (5, .int wo)]) hx hb dX12_tells_255 hl (by decide) rfl (fun ls hl => ?_)
                    refine lv_aload_n hx hb dX12_tells_257 rfl (lv_at hl 4 rfl) ?_
                    refine lv_iconst (v := 0) hx hb dX12_tells_258 (by decide) ?_
                    refine va_put (D := D) (ci := 12) (v := .int 0) (ty := .boolean) (C := RX12) (T := TX12) (N := 48) hx hb hg inC12 tyX12 tyX12_ok nmX12 hown hK hP hD hS 0 rfl rfl 24 (by decide) (hg _ wt5_184) (fun _ h9 => h9) rfl (by decide +kernel) rfl rfl (Nat.le_of_ble_eq_true rfl) dX12_tells_259 (fun H locs hP hD hS => ?_)
                    have hP : va_P D vwCl (mW K o r (upd u997 24 0) a_778 g) H := hP
                    have hD : va_D A (mW K o r (upd u997 24 0) a_778 g) := hD
                    refine k_gen (P := fun z => va_P D vwCl (mW K o r z a_778 g) H ∧ va_D A (mW K o r z a_778 g) ∧ (mI z a_778) ∧ (mE (XR []) f a z a_778) ∧ (mZ [22, 23, 24, 25] [26] f a z a_778) ∧ (eS z a_778 t false)) (upd u997 24 0) ⟨hP, hD, (mI_f hI (fI_st hI.1 24 kc_0 (by decide) (by decide))), (mE_f hE (by decide)), (mZ_f hZ rfl), (eS_f hk0 (by decide) (by decide))⟩ (fun f_1005 ef_1005 hq => ?_)
                    obtain ⟨hP, hD, hI, hE, hZ, hk0⟩ := hq
                    refine lv_aload_n hx hb dX12_tells_262 rfl (lv_at hl 4 rfl) ?_
                    refine lv_iconst (v := 5) hx hb dX12_tells_263 (by decide) ?_
                    refine kI.callV (As := [.int 5]) (rest := []) ⟨hx, hb, hml, hown, hg⟩ (m_passes0 l o r f_1005 a_778 g hI 5 (kb_w kc_5 (by decide) (by decide)) t (mm) false hk0 (by rw [((show f_1005 22 = u997 22 from kn7_u1 ef_1005 rfl).trans egv999.symm)]; exact hg1000)) (cwV 1 hg (kgV wt7_63 wt7_65 wp5_12 wt1_14 wt7_66) rfl rfl rfl (by decide +kernel) ⟨by decide, by decide⟩) hK hP hD hS hA mIs [] rfl (wr := []) rfl rfl rfl (fun i h => by cases h) 0 12 rfl rfl rfl hl.1 rfl (Nat.le_of_ble_eq_true rfl) dX12_tells_264 ⟨Nat.le_refl _, Nat.le_refl _⟩ (fun v1007 u1008 H locs hw1006 hP hD hS => ?_)
                    have hP : va_P D vwCl (mW K o r u1008 a_778 g) H := hP
                    have hD : va_D A (mW K o r u1008 a_778 g) := hD
                    have hI : mI u1008 a_778 := hw1006.2.1
                    have eE1009 : fE [22] f_1005 u1008 := hw1006.2.2.1
                    have hE : mE (XR []) f a u1008 a_778 := mE_fE hE eE1009 (by decide)
                    have hZ : mZ [22, 23, 24, 25] [26] f a u1008 a_778 := mZ_fE hZ (fE_w (by decide) eE1009)
                    have hk0 : eS u1008 a_778 t false := eS_fE eE1009 hk0 (by decide) (by decide)
                    have hz1010 := pass_y hw1006.2.2.2 (tq_y hp2 (x := 5) (y := 2003) (by decide +kernel) (by decide +kernel) h2)
                    refine k_top (z := 1) hz1010.1 ?_
                    obtain ⟨gv1011, egv1011⟩ : ∃ z : Int32, z = u1008 22 := ⟨_, rfl⟩
                    have hg1012 : gv1011.toInt = 400 * (t : Int) + ((mm + 1 : Nat) : Int) := by rw [egv1011]; exact hz1010.2
                    refine lv_if_eq (tgt := 278) hx hb dX12_tells_267 (by decide) (fun c1013 => ?_) (fun c1013 => ?_)
                    · exact kb_dj c1013 kc_1 kc_0 (by decide)
                    · refine lv_aload_n hx hb dX12_tells_270 rfl (lv_at hl 4 rfl) ?_
                      refine lv_iconst (v := 1) hx hb dX12_tells_271 (by decide) ?_
                      refine kI.callV (As := [.int 1]) (rest := []) ⟨hx, hb, hml, hown, hg⟩ ((n_allTest 8) l o r u1008 a_778 g hI 1 (kb_w kc_1 (by decide) (by decide)) t (mm + 1) (jj) false T (lwW (a 2) bd pt) ((DD (a 2 106).toInt.toNat).2.2.2.2.2.2 cc) hk0 (by rw [egv1011.symm]; exact hg1012) hp2 (hp3 u1008) h3) (cwV 1 hg (kgV wt7_80 wt7_82 wp5_15 wt1_14 wt7_83) rfl rfl rfl (by decide +kernel) ⟨by decide, by decide⟩) hK hP hD hS hA mIs [] rfl (wr := []) rfl rfl rfl (fun i h => by cases h) 0 12 rfl rfl rfl hl.1 rfl (Nat.le_of_ble_eq_true rfl) dX12_tells_272 ⟨Nat.le_refl _, Nat.le_refl _⟩ (fun v1015 u1016 H locs hw1014 hP hD hS => ?_)
                      have hP : va_P D vwCl (mW K o r u1016 a_778 g) H := hP
                      have hD : va_D A (mW K o r u1016 a_778 g) := hD
                      have hI : mI u1016 a_778 := hw1014.2.1
                      have eE1017 : fE [22, 24] u1008 u1016 := hw1014.2.2.1
                      have hE : mE (XR []) f a u1016 a_778 := mE_fE hE eE1017 (by decide)
                      have hZ : mZ [22, 23, 24, 25] [26] f a u1016 a_778 := mZ_fE hZ (fE_w (by decide) eE1017)
                      have hk0 : eS u1016 a_778 t false := eS_fE eE1017 hk0 (by decide) (by decide)
                      obtain ⟨gv1018, egv1018⟩ : ∃ z : Int32, z = u1016 22 := ⟨_, rfl⟩
                      have hg1019 : gv1018.toInt = 400 * (t : Int) + ((jj : Nat) : Int) := by rw [egv1018]; exact hw1014.2.2.2.1
                      have b1020 : kb 0 gv1018 2801 := kb_go1 hk0 (by have w1 := hk0.2.2.2.2; omega) hg1019
                      obtain ⟨bq1021, ebq1021⟩ : ∃ z : Int32, z = u1016 24 := ⟨_, rfl⟩
                      have b1022 : kb 0 bq1021 1 := kb_eq ebq1021 (fI_at hI.1 24 (by decide) (by decide))
                      have hr1023 : mTv 1 0 (((DD (a 2 106).toInt.toNat).2.2.2.2.2.2 cc) (lwW (a 2) bd pt)) bq1021 v1015 := by have w1 := hw1014.2.2.2.2; rw [((eE1009 24 (by decide)).trans (show f_1005 24 = 0 from kn7_u1 ef_1005 rfl)), ← ebq1021] at w1; exact w1
                      refine lv_if_eq (tgt := 282) hx hb dX12_tells_275 (by decide) (fun c1024 => ?_) (fun c1024 => ?_)
                      · have b1025 : kb 0 v1015 0 := kb_eq c1024 kc_0
                        refine lv_iconst (v := 0) hx hb dX12_tells_282 (by decide) ?_
                        refine lv_istore (lv' := [(12, .int 0), (11, .int bq1002), (9, .long v996), (8, .int 2), (6, .long y792), (0, .ref o), (1, .int hd), (2, .int bd), (3, .int pt), (4, .int hi), (5, .int wo)]) hx hb dX12_tells_283 hl (by decide) rfl (fun ls hl => ?_)
                        refine lv_iload hx hb dX12_tells_285 (lv_at hl 3 rfl) ?_
                        refine lv_iload_n hx hb dX12_tells_287 rfl (lv_at hl 6 rfl) ?_
                        refine lv_icmp_ne (tgt := 338) hx hb dX12_tells_288 (by decide) (fun c1026 => ?_) (fun c1026 => ?_)
                        · refine lv_aload_n hx hb dX12_tells_338 rfl (lv_at hl 5 rfl) ?_
                          refine lv_dup hx hb dX12_tells_339 rfl ?_
                          refine va_get (D := D) (ci := 12) (v := .int (u1016 22)) (C := RX12) (T := TX12) (N := 48) hx hb hg inC12 hown hK hP 0 rfl rfl 22 (by decide) (hg _ wt5_182) (fun _ h9 => h9) rfl dX12_tells_340 ?_
                          refine k_top (z := gv1018) egv1018.symm ?_
                          refine lv_iconst (v := 1) hx hb dX12_tells_343 (by decide) ?_
                          refine lv_iadd hx hb dX12_tells_344 ?_
                          refine lv_topi (fun t1027 et1027 => ?_)
                          have b1028 : kb 1 t1027 2802 := kb_eq et1027 (kb_add b1020 kc_1 (by decide) (by decide))
                          have qt1027 : t1027.toInt = gv1018.toInt + 1 := by rw [et1027]; exact kt_addc b1020 kc_1 (by decide) (by decide)
                          have hg1029 : t1027.toInt = 400 * (t : Int) + ((jj + 1 : Nat) : Int) := by first | exact kn7_go qt1027 hg1019 | (rw [qt1027, hg1019]; omega)
                          refine va_put (D := D) (ci := 12) (v := .int t1027) (ty := .int) (C := RX12) (T := TX12) (N := 48) hx hb hg inC12 tyX12 tyX12_ok nmX12 hown hK hP hD hS 0 rfl rfl 22 (by decide) (hg _ wt5_182) (fun _ h9 => h9) rfl (by decide +kernel) rfl rfl (Nat.le_of_ble_eq_true rfl) dX12_tells_345 (fun H locs hP hD hS => ?_)
                          have hP : va_P D vwCl (mW K o r (upd u1016 22 t1027) a_778 g) H := hP
                          have hD : va_D A (mW K o r (upd u1016 22 t1027) a_778 g) := hD
                          refine k_gen (P := fun z => va_P D vwCl (mW K o r z a_778 g) H ∧ va_D A (mW K o r z a_778 g) ∧ (mI z a_778) ∧ (mE (XR []) f a z a_778) ∧ (mZ [22, 23, 24, 25] [26] f a z a_778) ∧ (eS z a_778 t false)) (upd u1016 22 t1027) ⟨hP, hD, (mI_f hI (fI_st hI.1 22 (kb_any _) (by decide) (by decide))), (mE_f hE (by decide)), (mZ_f hZ rfl), (eS_f hk0 (by decide) (by decide))⟩ (fun f_1030 ef_1030 hq => ?_)
                          obtain ⟨hP, hD, hI, hE, hZ, hk0⟩ := hq
                          refine lv_goto (tgt := 198) hx hb dX12_tells_348 (by decide) ?_
                          exact ihlp794 (jj + 1) (cc + 1) f_1030 _ _ _ y792 (by first | exact kn7_ml hmlp794 | (have w1 := hmlp794; omega)) hI hE hZ hk0 b796 (by rw [(show f_1030 22 = t1027 from kn7_u1 ef_1030 rfl)]; exact hg1029) (hnx.elim (fun q => Or.inl ⟨q.1, q.2.2.symm⟩) (fun q => Or.inr ⟨q.1, by first | exact kn7_sl q.2 | (have w1 := q.2; omega)⟩)) (by rw [lastOf_s, ct_n (fun q => c1026 (Int32.toInt_inj.mp (by first | exact (kHd_j (hhk.symm.trans q) bhd).trans (by decide +kernel) | (have w1 := kHd_j (hhk.symm.trans q) bhd; have w2 : (2 : Int32).toInt = 2 := (by decide +kernel); omega))))]; exact htd) (by first | exact Nat.succ_le_of_lt hcs.1 | (have w1 := hcs.1; omega)) hP hD hS (lv_sub hl [4, 5, 6, 7, 8, 9, 10] rfl)
                        · have b1031 : kb 2 hd 2 := kb_eq c1026.symm kc_2
                          refine lv_iload hx hb dX12_tells_291 (lv_at hl 0 rfl) ?_
                          refine lv_if_eq (tgt := 338) hx hb dX12_tells_293 (by decide) (fun c1032 => ?_) (fun c1032 => ?_)
                          · refine lv_aload_n hx hb dX12_tells_338 rfl (lv_at hl 5 rfl) ?_
                            refine lv_dup hx hb dX12_tells_339 rfl ?_
                            refine va_get (D := D) (ci := 12) (v := .int (u1016 22)) (C := RX12) (T := TX12) (N := 48) hx hb hg inC12 hown hK hP 0 rfl rfl 22 (by decide) (hg _ wt5_182) (fun _ h9 => h9) rfl dX12_tells_340 ?_
                            refine k_top (z := gv1018) egv1018.symm ?_
                            refine lv_iconst (v := 1) hx hb dX12_tells_343 (by decide) ?_
                            refine lv_iadd hx hb dX12_tells_344 ?_
                            refine lv_topi (fun t1033 et1033 => ?_)
                            have b1034 : kb 1 t1033 2802 := kb_eq et1033 (kb_add b1020 kc_1 (by decide) (by decide))
                            have qt1033 : t1033.toInt = gv1018.toInt + 1 := by rw [et1033]; exact kt_addc b1020 kc_1 (by decide) (by decide)
                            have hg1035 : t1033.toInt = 400 * (t : Int) + ((jj + 1 : Nat) : Int) := by first | exact kn7_go qt1033 hg1019 | (rw [qt1033, hg1019]; omega)
                            refine va_put (D := D) (ci := 12) (v := .int t1033) (ty := .int) (C := RX12) (T := TX12) (N := 48) hx hb hg inC12 tyX12 tyX12_ok nmX12 hown hK hP hD hS 0 rfl rfl 22 (by decide) (hg _ wt5_182) (fun _ h9 => h9) rfl (by decide +kernel) rfl rfl (Nat.le_of_ble_eq_true rfl) dX12_tells_345 (fun H locs hP hD hS => ?_)
                            have hP : va_P D vwCl (mW K o r (upd u1016 22 t1033) a_778 g) H := hP
                            have hD : va_D A (mW K o r (upd u1016 22 t1033) a_778 g) := hD
                            refine k_gen (P := fun z => va_P D vwCl (mW K o r z a_778 g) H ∧ va_D A (mW K o r z a_778 g) ∧ (mI z a_778) ∧ (mE (XR []) f a z a_778) ∧ (mZ [22, 23, 24, 25] [26] f a z a_778) ∧ (eS z a_778 t false)) (upd u1016 22 t1033) ⟨hP, hD, (mI_f hI (fI_st hI.1 22 (kb_any _) (by decide) (by decide))), (mE_f hE (by decide)), (mZ_f hZ rfl), (eS_f hk0 (by decide) (by decide))⟩ (fun f_1036 ef_1036 hq => ?_)
                            obtain ⟨hP, hD, hI, hE, hZ, hk0⟩ := hq
                            refine lv_goto (tgt := 198) hx hb dX12_tells_348 (by decide) ?_
                            exact ihlp794 (jj + 1) (cc + 1) f_1036 _ _ _ y792 (by first | exact kn7_ml hmlp794 | (have w1 := hmlp794; omega)) hI hE hZ hk0 b796 (by rw [(show f_1036 22 = t1033 from kn7_u1 ef_1036 rfl)]; exact hg1035) (hnx.elim (fun q => Or.inl ⟨q.1, q.2.2.symm⟩) (fun q => Or.inr ⟨q.1, by first | exact kn7_sl q.2 | (have w1 := q.2; omega)⟩)) (by rw [lastOf_s, ct_t (mt_0 hr1023 c1024)]; exact htd) (by first | exact Nat.succ_le_of_lt hcs.1 | (have w1 := hcs.1; omega)) hP hD hS (lv_sub hl [4, 5, 6, 7, 8, 9, 10] rfl)
                          · exact kb_nsame c1032 kc_0 kc_0
                      · have b1037 : kb 1 v1015 1 := kr_nel c1024 hw1014.1 kc_0 (by decide)
                        refine lv_iconst (v := 1) hx hb dX12_tells_278 (by decide) ?_
                        refine lv_goto (tgt := 283) hx hb dX12_tells_279 (by decide) ?_
                        refine lv_istore (lv' := [(12, .int 1), (11, .int bq1002), (9, .long v996), (8, .int 2), (6, .long y792), (0, .ref o), (1, .int hd), (2, .int bd), (3, .int pt), (4, .int hi), (5, .int wo)]) hx hb dX12_tells_283 hl (by decide) rfl (fun ls hl => ?_)
                        refine lv_iload hx hb dX12_tells_285 (lv_at hl 3 rfl) ?_
                        refine lv_iload_n hx hb dX12_tells_287 rfl (lv_at hl 6 rfl) ?_
                        refine lv_icmp_ne (tgt := 338) hx hb dX12_tells_288 (by decide) (fun c1038 => ?_) (fun c1038 => ?_)
                        · refine lv_aload_n hx hb dX12_tells_338 rfl (lv_at hl 5 rfl) ?_
                          refine lv_dup hx hb dX12_tells_339 rfl ?_
                          refine va_get (D := D) (ci := 12) (v := .int (u1016 22)) (C := RX12) (T := TX12) (N := 48) hx hb hg inC12 hown hK hP 0 rfl rfl 22 (by decide) (hg _ wt5_182) (fun _ h9 => h9) rfl dX12_tells_340 ?_
                          refine k_top (z := gv1018) egv1018.symm ?_
                          refine lv_iconst (v := 1) hx hb dX12_tells_343 (by decide) ?_
                          refine lv_iadd hx hb dX12_tells_344 ?_
                          refine lv_topi (fun t1039 et1039 => ?_)
                          have b1040 : kb 1 t1039 2802 := kb_eq et1039 (kb_add b1020 kc_1 (by decide) (by decide))
                          have qt1039 : t1039.toInt = gv1018.toInt + 1 := by rw [et1039]; exact kt_addc b1020 kc_1 (by decide) (by decide)
                          have hg1041 : t1039.toInt = 400 * (t : Int) + ((jj + 1 : Nat) : Int) := by first | exact kn7_go qt1039 hg1019 | (rw [qt1039, hg1019]; omega)
                          refine va_put (D := D) (ci := 12) (v := .int t1039) (ty := .int) (C := RX12) (T := TX12) (N := 48) hx hb hg inC12 tyX12 tyX12_ok nmX12 hown hK hP hD hS 0 rfl rfl 22 (by decide) (hg _ wt5_182) (fun _ h9 => h9) rfl (by decide +kernel) rfl rfl (Nat.le_of_ble_eq_true rfl) dX12_tells_345 (fun H locs hP hD hS => ?_)
                          have hP : va_P D vwCl (mW K o r (upd u1016 22 t1039) a_778 g) H := hP
                          have hD : va_D A (mW K o r (upd u1016 22 t1039) a_778 g) := hD
                          refine k_gen (P := fun z => va_P D vwCl (mW K o r z a_778 g) H ∧ va_D A (mW K o r z a_778 g) ∧ (mI z a_778) ∧ (mE (XR []) f a z a_778) ∧ (mZ [22, 23, 24, 25] [26] f a z a_778) ∧ (eS z a_778 t false)) (upd u1016 22 t1039) ⟨hP, hD, (mI_f hI (fI_st hI.1 22 (kb_any _) (by decide) (by decide))), (mE_f hE (by decide)), (mZ_f hZ rfl), (eS_f hk0 (by decide) (by decide))⟩ (fun f_1042 ef_1042 hq => ?_)
                          obtain ⟨hP, hD, hI, hE, hZ, hk0⟩ := hq
                          refine lv_goto (tgt := 198) hx hb dX12_tells_348 (by decide) ?_
                          exact ihlp794 (jj + 1) (cc + 1) f_1042 _ _ _ y792 (by first | exact kn7_ml hmlp794 | (have w1 := hmlp794; omega)) hI hE hZ hk0 b796 (by rw [(show f_1042 22 = t1039 from kn7_u1 ef_1042 rfl)]; exact hg1041) (hnx.elim (fun q => Or.inl ⟨q.1, q.2.2.symm⟩) (fun q => Or.inr ⟨q.1, by first | exact kn7_sl q.2 | (have w1 := q.2; omega)⟩)) (by rw [lastOf_s, ct_n (fun q => c1038 (Int32.toInt_inj.mp (by first | exact (kHd_j (hhk.symm.trans q) bhd).trans (by decide +kernel) | (have w1 := kHd_j (hhk.symm.trans q) bhd; have w2 : (2 : Int32).toInt = 2 := (by decide +kernel); omega))))]; exact htd) (by first | exact Nat.succ_le_of_lt hcs.1 | (have w1 := hcs.1; omega)) hP hD hS (lv_sub hl [4, 5, 6, 7, 8, 9, 10] rfl)
                        · have b1043 : kb 2 hd 2 := kb_eq c1038.symm kc_2
                          refine lv_iload hx hb dX12_tells_291 (lv_at hl 0 rfl) ?_
                          refine lv_if_eq (tgt := 338) hx hb dX12_tells_293 (by decide) (fun c1044 => ?_) (fun c1044 => ?_)
                          · exact kb_dj c1044 kc_1 kc_0 (by decide)
                          · refine lv_aload_n hx hb dX12_tells_296 rfl (lv_at hl 5 rfl) ?_
                            refine va_get (D := D) (ci := 12) (v := .int (u1016 24)) (C := RX12) (T := TX12) (N := 48) hx hb hg inC12 hown hK hP 0 rfl rfl 24 (by decide) (hg _ wt5_184) (fun _ h9 => h9) rfl dX12_tells_297 ?_
                            refine k_top (z := bq1021) ebq1021.symm ?_
                            refine lv_if_ne (tgt := 338) hx hb dX12_tells_300 (by decide) (fun c1045 => ?_) (fun c1045 => ?_)
                            · have b1046 : kb 1 bq1021 1 := kr_nel c1045 b1022 kc_0 (by decide)
                              refine lv_aload_n hx hb dX12_tells_338 rfl (lv_at hl 5 rfl) ?_
                              refine lv_dup hx hb dX12_tells_339 rfl ?_
                              refine va_get (D := D) (ci := 12) (v := .int (u1016 22)) (C := RX12) (T := TX12) (N := 48) hx hb hg inC12 hown hK hP 0 rfl rfl 22 (by decide) (hg _ wt5_182) (fun _ h9 => h9) rfl dX12_tells_340 ?_
                              refine k_top (z := gv1018) egv1018.symm ?_
                              refine lv_iconst (v := 1) hx hb dX12_tells_343 (by decide) ?_
                              refine lv_iadd hx hb dX12_tells_344 ?_
                              refine lv_topi (fun t1047 et1047 => ?_)
                              have b1048 : kb 1 t1047 2802 := kb_eq et1047 (kb_add b1020 kc_1 (by decide) (by decide))
                              have qt1047 : t1047.toInt = gv1018.toInt + 1 := by rw [et1047]; exact kt_addc b1020 kc_1 (by decide) (by decide)
                              have hg1049 : t1047.toInt = 400 * (t : Int) + ((jj + 1 : Nat) : Int) := by first | exact kn7_go qt1047 hg1019 | (rw [qt1047, hg1019]; omega)
                              refine va_put (D := D) (ci := 12) (v := .int t1047) (ty := .int) (C := RX12) (T := TX12) (N := 48) hx hb hg inC12 tyX12 tyX12_ok nmX12 hown hK hP hD hS 0 rfl rfl 22 (by decide) (hg _ wt5_182) (fun _ h9 => h9) rfl (by decide +kernel) rfl rfl (Nat.le_of_ble_eq_true rfl) dX12_tells_345 (fun H locs hP hD hS => ?_)
                              have hP : va_P D vwCl (mW K o r (upd u1016 22 t1047) a_778 g) H := hP
                              have hD : va_D A (mW K o r (upd u1016 22 t1047) a_778 g) := hD
                              refine k_gen (P := fun z => va_P D vwCl (mW K o r z a_778 g) H ∧ va_D A (mW K o r z a_778 g) ∧ (mI z a_778) ∧ (mE (XR []) f a z a_778) ∧ (mZ [22, 23, 24, 25] [26] f a z a_778) ∧ (eS z a_778 t false)) (upd u1016 22 t1047) ⟨hP, hD, (mI_f hI (fI_st hI.1 22 (kb_any _) (by decide) (by decide))), (mE_f hE (by decide)), (mZ_f hZ rfl), (eS_f hk0 (by decide) (by decide))⟩ (fun f_1050 ef_1050 hq => ?_)
                              obtain ⟨hP, hD, hI, hE, hZ, hk0⟩ := hq
                              refine lv_goto (tgt := 198) hx hb dX12_tells_348 (by decide) ?_
                              exact ihlp794 (jj + 1) (cc + 1) f_1050 _ _ _ y792 (by first | exact kn7_ml hmlp794 | (have w1 := hmlp794; omega)) hI hE hZ hk0 b796 (by rw [(show f_1050 22 = t1047 from kn7_u1 ef_1050 rfl)]; exact hg1049) (hnx.elim (fun q => Or.inl ⟨q.1, q.2.2.symm⟩) (fun q => Or.inr ⟨q.1, by first | exact kn7_sl q.2 | (have w1 := q.2; omega)⟩)) (by rw [lastOf_s, ct_t (mt_n hr1023 c1045)]; exact htd) (by first | exact Nat.succ_le_of_lt hcs.1 | (have w1 := hcs.1; omega)) hP hD hS (lv_sub hl [4, 5, 6, 7, 8, 9, 10] rfl)
                            · have b1051 : kb 0 bq1021 0 := kb_eq c1045 kc_0
                              refine lv_iload hx hb dX12_tells_303 (lv_at hl 1 rfl) ?_
                              refine lv_if_ne (tgt := 338) hx hb dX12_tells_305 (by decide) (fun c1052 => ?_) (fun c1052 => ?_)
                              · have b1053 : kb 1 bq1002 1 := kr_nel c1052 b1003 kc_0 (by decide)
                                refine lv_aload_n hx hb dX12_tells_338 rfl (lv_at hl 5 rfl) ?_
                                refine lv_dup hx hb dX12_tells_339 rfl ?_
                                refine va_get (D := D) (ci := 12) (v := .int (u1016 22)) (C := RX12) (T := TX12) (N := 48) hx hb hg inC12 hown hK hP 0 rfl rfl 22 (by decide) (hg _ wt5_182) (fun _ h9 => h9) rfl dX12_tells_340 ?_
                                refine k_top (z := gv1018) egv1018.symm ?_
                                refine lv_iconst (v := 1) hx hb dX12_tells_343 (by decide) ?_
                                refine lv_iadd hx hb dX12_tells_344 ?_
                                refine lv_topi (fun t1054 et1054 => ?_)
                                have b1055 : kb 1 t1054 2802 := kb_eq et1054 (kb_add b1020 kc_1 (by decide) (by decide))
                                have qt1054 : t1054.toInt = gv1018.toInt + 1 := by rw [et1054]; exact kt_addc b1020 kc_1 (by decide) (by decide)
                                have hg1056 : t1054.toInt = 400 * (t : Int) + ((jj + 1 : Nat) : Int) := by first | exact kn7_go qt1054 hg1019 | (rw [qt1054, hg1019]; omega)
                                refine va_put (D := D) (ci := 12) (v := .int t1054) (ty := .int) (C := RX12) (T := TX12) (N := 48) hx hb hg inC12 tyX12 tyX12_ok nmX12 hown hK hP hD hS 0 rfl rfl 22 (by decide) (hg _ wt5_182) (fun _ h9 => h9) rfl (by decide +kernel) rfl rfl (Nat.le_of_ble_eq_true rfl) dX12_tells_345 (fun H locs hP hD hS => ?_)
                                have hP : va_P D vwCl (mW K o r (upd u1016 22 t1054) a_778 g) H := hP
                                have hD : va_D A (mW K o r (upd u1016 22 t1054) a_778 g) := hD
                                refine k_gen (P := fun z => va_P D vwCl (mW K o r z a_778 g) H ∧ va_D A (mW K o r z a_778 g) ∧ (mI z a_778) ∧ (mE (XR []) f a z a_778) ∧ (mZ [22, 23, 24, 25] [26] f a z a_778) ∧ (eS z a_778 t false)) (upd u1016 22 t1054) ⟨hP, hD, (mI_f hI (fI_st hI.1 22 (kb_any _) (by decide) (by decide))), (mE_f hE (by decide)), (mZ_f hZ rfl), (eS_f hk0 (by decide) (by decide))⟩ (fun f_1057 ef_1057 hq => ?_)
                                obtain ⟨hP, hD, hI, hE, hZ, hk0⟩ := hq
                                refine lv_goto (tgt := 198) hx hb dX12_tells_348 (by decide) ?_
                                exact ihlp794 (jj + 1) (cc + 1) f_1057 _ _ _ y792 (by first | exact kn7_ml hmlp794 | (have w1 := hmlp794; omega)) hI hE hZ hk0 b796 (by rw [(show f_1057 22 = t1054 from kn7_u1 ef_1057 rfl)]; exact hg1056) (hnx.elim (fun q => Or.inl ⟨q.1, q.2.2.symm⟩) (fun q => Or.inr ⟨q.1, by first | exact kn7_sl q.2 | (have w1 := q.2; omega)⟩)) (by rw [lastOf_s, ct_b (mr_n hr1004 c1052)]; exact htd) (by first | exact Nat.succ_le_of_lt hcs.1 | (have w1 := hcs.1; omega)) hP hD hS (lv_sub hl [4, 5, 6, 7, 8, 9, 10] rfl)
                              · have b1058 : kb 0 bq1002 0 := kb_eq c1052 kc_0
                                refine lv_lload hx hb dX12_tells_308 (lv_at hl 2 rfl) ?_
                                refine lv_lconst (v := 0) hx hb dX12_tells_310 (by decide) ?_
                                refine W.lcmp hx hb dX12_tells_311 ?_
                                refine lv_topi (fun t1059 et1059 => ?_)
                                refine lv_if_ge (tgt := 319) hx hb dX12_tells_312 (by decide) (fun c1060 => ?_) (fun c1060 => ?_)
                                · have h1061 := klc_ge (et1059 ▸ c1060)
                                  have b1062 : kbl 0 v996 9223372036854775807 := klr_le2 h1061 kcl_0 (kbl_any v996)
                                  refine lv_lload hx hb dX12_tells_319 (lv_at hl 2 rfl) ?_
                                  refine lv_iload hx hb dX12_tells_321 (lv_at hl 9 rfl) ?_
                                  refine lv_i2l hx hb dX12_tells_323 rfl ?_
                                  refine lv_topl (fun t1063 et1063 => ?_)
                                  have b1064 : kbl 0 t1063 20 := kbl_eq et1063 (kbl_i2l bhi)
                                  refine W.lcmp hx hb dX12_tells_324 ?_
                                  refine lv_topi (fun t1065 et1065 => ?_)
                                  refine lv_if_le (tgt := 334) hx hb dX12_tells_325 (by decide) (fun c1066 => ?_) (fun c1066 => ?_)
                                  · have h1067 := klc_le (et1065 ▸ c1066)
                                    have b1068 : kbl 0 v996 20 := klr_le1 h1067 b1062 b1064
                                    refine lv_lload hx hb dX12_tells_334 (lv_at hl 2 rfl) ?_
                                    refine lv_lstore (lv' := [(6, .long v996), (12, .int 1), (11, .int bq1002), (9, .long v996), (8, .int 2), (0, .ref o), (1, .int hd), (2, .int bd), (3, .int pt), (4, .int hi), (5, .int wo)]) hx hb dX12_tells_336 hl (by decide) rfl (fun ls hl => ?_)
                                    refine lv_aload_n hx hb dX12_tells_338 rfl (lv_at hl 5 rfl) ?_
                                    refine lv_dup hx hb dX12_tells_339 rfl ?_
                                    refine va_get (D := D) (ci := 12) (v := .int (u1016 22)) (C := RX12) (T := TX12) (N := 48) hx hb hg inC12 hown hK hP 0 rfl rfl 22 (by decide) (hg _ wt5_182) (fun _ h9 => h9) rfl dX12_tells_340 ?_
                                    refine k_top (z := gv1018) egv1018.symm ?_
                                    refine lv_iconst (v := 1) hx hb dX12_tells_343 (by decide) ?_
                                    refine lv_iadd hx hb dX12_tells_344 ?_
                                    refine lv_topi (fun t1069 et1069 => ?_)
                                    have b1070 : kb 1 t1069 2802 := kb_eq et1069 (kb_add b1020 kc_1 (by decide) (by decide))
                                    have qt1069 : t1069.toInt = gv1018.toInt + 1 := by rw [et1069]; exact kt_addc b1020 kc_1 (by decide) (by decide)
                                    have hg1071 : t1069.toInt = 400 * (t : Int) + ((jj + 1 : Nat) : Int) := by first | exact kn7_go qt1069 hg1019 | (rw [qt1069, hg1019]; omega)
                                    refine va_put (D := D) (ci := 12) (v := .int t1069) (ty := .int) (C := RX12) (T := TX12) (N := 48) hx hb hg inC12 tyX12 tyX12_ok nmX12 hown hK hP hD hS 0 rfl rfl 22 (by decide) (hg _ wt5_182) (fun _ h9 => h9) rfl (by decide +kernel) rfl rfl (Nat.le_of_ble_eq_true rfl) dX12_tells_345 (fun H locs hP hD hS => ?_)
                                    have hP : va_P D vwCl (mW K o r (upd u1016 22 t1069) a_778 g) H := hP
                                    have hD : va_D A (mW K o r (upd u1016 22 t1069) a_778 g) := hD
                                    refine k_gen (P := fun z => va_P D vwCl (mW K o r z a_778 g) H ∧ va_D A (mW K o r z a_778 g) ∧ (mI z a_778) ∧ (mE (XR []) f a z a_778) ∧ (mZ [22, 23, 24, 25] [26] f a z a_778) ∧ (eS z a_778 t false)) (upd u1016 22 t1069) ⟨hP, hD, (mI_f hI (fI_st hI.1 22 (kb_any _) (by decide) (by decide))), (mE_f hE (by decide)), (mZ_f hZ rfl), (eS_f hk0 (by decide) (by decide))⟩ (fun f_1072 ef_1072 hq => ?_)
                                    obtain ⟨hP, hD, hI, hE, hZ, hk0⟩ := hq
                                    refine lv_goto (tgt := 198) hx hb dX12_tells_348 (by decide) ?_
                                    exact ihlp794 (jj + 1) (cc + 1) f_1072 _ _ _ v996 (by first | exact kn7_ml hmlp794 | (have w1 := hmlp794; omega)) hI hE hZ hk0 b1068 (by rw [(show f_1072 22 = t1069 from kn7_u1 ef_1072 rfl)]; exact hg1071) (hnx.elim (fun q => Or.inl ⟨q.1, q.2.2.symm⟩) (fun q => Or.inr ⟨q.1, by first | exact kn7_sl q.2 | (have w1 := q.2; omega)⟩)) (by rw [lastOf_s, ct_y (hhk.trans (by rw [← c1038]; decide +kernel)) (by have w1 := mt_1 hr1023 c1045; rw [kb_11 b1037] at w1; exact w1) (mr_s hr1004 c1052)]; show (v996 : Int64).toInt = max 0 (min hi.toInt (v996.toInt)); have w0 := bhi.1; have k0 : (0 : Int64).toInt = 0 := (by decide +kernel); have k1 : (1 : Int64).toInt = 1 := (by decide +kernel); have k9t1063 : t1063.toInt = hi.toInt := (congrArg Int64.toInt et1063).trans (kt_i2l _); omega) (by first | exact Nat.succ_le_of_lt hcs.1 | (have w1 := hcs.1; omega)) hP hD hS (lv_sub hl [0, 5, 6, 7, 8, 9, 10] rfl)
                                  · have h1073 := klc_nle (et1065 ▸ c1066)
                                    have b1074 : kbl 1 v996 9223372036854775807 := klr_lt2 h1073 b1064 b1062 (by decide)
                                    refine lv_iload hx hb dX12_tells_328 (lv_at hl 9 rfl) ?_
                                    refine lv_i2l hx hb dX12_tells_330 rfl ?_
                                    refine lv_topl (fun t1075 et1075 => ?_)
                                    have b1076 : kbl 0 t1075 20 := kbl_eq et1075 (kbl_i2l bhi)
                                    refine lv_goto (tgt := 336) hx hb dX12_tells_331 (by decide) ?_
                                    refine lv_lstore (lv' := [(6, .long t1075), (12, .int 1), (11, .int bq1002), (9, .long v996), (8, .int 2), (0, .ref o), (1, .int hd), (2, .int bd), (3, .int pt), (4, .int hi), (5, .int wo)]) hx hb dX12_tells_336 hl (by decide) rfl (fun ls hl => ?_)
                                    refine lv_aload_n hx hb dX12_tells_338 rfl (lv_at hl 5 rfl) ?_
                                    refine lv_dup hx hb dX12_tells_339 rfl ?_
                                    refine va_get (D := D) (ci := 12) (v := .int (u1016 22)) (C := RX12) (T := TX12) (N := 48) hx hb hg inC12 hown hK hP 0 rfl rfl 22 (by decide) (hg _ wt5_182) (fun _ h9 => h9) rfl dX12_tells_340 ?_
                                    refine k_top (z := gv1018) egv1018.symm ?_
                                    refine lv_iconst (v := 1) hx hb dX12_tells_343 (by decide) ?_
                                    refine lv_iadd hx hb dX12_tells_344 ?_
                                    refine lv_topi (fun t1077 et1077 => ?_)
                                    have b1078 : kb 1 t1077 2802 := kb_eq et1077 (kb_add b1020 kc_1 (by decide) (by decide))
                                    have qt1077 : t1077.toInt = gv1018.toInt + 1 := by rw [et1077]; exact kt_addc b1020 kc_1 (by decide) (by decide)
                                    have hg1079 : t1077.toInt = 400 * (t : Int) + ((jj + 1 : Nat) : Int) := by first | exact kn7_go qt1077 hg1019 | (rw [qt1077, hg1019]; omega)
                                    refine va_put (D := D) (ci := 12) (v := .int t1077) (ty := .int) (C := RX12) (T := TX12) (N := 48) hx hb hg inC12 tyX12 tyX12_ok nmX12 hown hK hP hD hS 0 rfl rfl 22 (by decide) (hg _ wt5_182) (fun _ h9 => h9) rfl (by decide +kernel) rfl rfl (Nat.le_of_ble_eq_true rfl) dX12_tells_345 (fun H locs hP hD hS => ?_)
                                    have hP : va_P D vwCl (mW K o r (upd u1016 22 t1077) a_778 g) H := hP
                                    have hD : va_D A (mW K o r (upd u1016 22 t1077) a_778 g) := hD
                                    refine k_gen (P := fun z => va_P D vwCl (mW K o r z a_778 g) H ∧ va_D A (mW K o r z a_778 g) ∧ (mI z a_778) ∧ (mE (XR []) f a z a_778) ∧ (mZ [22, 23, 24, 25] [26] f a z a_778) ∧ (eS z a_778 t false)) (upd u1016 22 t1077) ⟨hP, hD, (mI_f hI (fI_st hI.1 22 (kb_any _) (by decide) (by decide))), (mE_f hE (by decide)), (mZ_f hZ rfl), (eS_f hk0 (by decide) (by decide))⟩ (fun f_1080 ef_1080 hq => ?_)
                                    obtain ⟨hP, hD, hI, hE, hZ, hk0⟩ := hq
                                    refine lv_goto (tgt := 198) hx hb dX12_tells_348 (by decide) ?_
                                    exact ihlp794 (jj + 1) (cc + 1) f_1080 _ _ _ t1075 (by first | exact kn7_ml hmlp794 | (have w1 := hmlp794; omega)) hI hE hZ hk0 b1076 (by rw [(show f_1080 22 = t1077 from kn7_u1 ef_1080 rfl)]; exact hg1079) (hnx.elim (fun q => Or.inl ⟨q.1, q.2.2.symm⟩) (fun q => Or.inr ⟨q.1, by first | exact kn7_sl q.2 | (have w1 := q.2; omega)⟩)) (by rw [lastOf_s, ct_y (hhk.trans (by rw [← c1038]; decide +kernel)) (by have w1 := mt_1 hr1023 c1045; rw [kb_11 b1037] at w1; exact w1) (mr_s hr1004 c1052)]; show (t1075 : Int64).toInt = max 0 (min hi.toInt (v996.toInt)); have w0 := bhi.1; have k0 : (0 : Int64).toInt = 0 := (by decide +kernel); have k1 : (1 : Int64).toInt = 1 := (by decide +kernel); have k9 : t1075.toInt = hi.toInt := (congrArg Int64.toInt et1075).trans (kt_i2l _); have k9t1063 : t1063.toInt = hi.toInt := (congrArg Int64.toInt et1063).trans (kt_i2l _); have k9t1075 : t1075.toInt = hi.toInt := (congrArg Int64.toInt et1075).trans (kt_i2l _); omega) (by first | exact Nat.succ_le_of_lt hcs.1 | (have w1 := hcs.1; omega)) hP hD hS (lv_sub hl [0, 5, 6, 7, 8, 9, 10] rfl)
                                · have h1081 := klc_nge (et1059 ▸ c1060)
                                  have b1082 : kbl (-9223372036854775808) v996 (-1) := klr_lt1 h1081 (kbl_any v996) kcl_0 (by decide)
                                  refine lv_lconst (v := 0) hx hb dX12_tells_315 (by decide) ?_
                                  refine lv_goto (tgt := 336) hx hb dX12_tells_316 (by decide) ?_
                                  refine lv_lstore (lv' := [(6, .long 0), (12, .int 1), (11, .int bq1002), (9, .long v996), (8, .int 2), (0, .ref o), (1, .int hd), (2, .int bd), (3, .int pt), (4, .int hi), (5, .int wo)]) hx hb dX12_tells_336 hl (by decide) rfl (fun ls hl => ?_)
                                  refine lv_aload_n hx hb dX12_tells_338 rfl (lv_at hl 5 rfl) ?_
                                  refine lv_dup hx hb dX12_tells_339 rfl ?_
                                  refine va_get (D := D) (ci := 12) (v := .int (u1016 22)) (C := RX12) (T := TX12) (N := 48) hx hb hg inC12 hown hK hP 0 rfl rfl 22 (by decide) (hg _ wt5_182) (fun _ h9 => h9) rfl dX12_tells_340 ?_
                                  refine k_top (z := gv1018) egv1018.symm ?_
                                  refine lv_iconst (v := 1) hx hb dX12_tells_343 (by decide) ?_
                                  refine lv_iadd hx hb dX12_tells_344 ?_
                                  refine lv_topi (fun t1083 et1083 => ?_)
                                  have b1084 : kb 1 t1083 2802 := kb_eq et1083 (kb_add b1020 kc_1 (by decide) (by decide))
                                  have qt1083 : t1083.toInt = gv1018.toInt + 1 := by rw [et1083]; exact kt_addc b1020 kc_1 (by decide) (by decide)
                                  have hg1085 : t1083.toInt = 400 * (t : Int) + ((jj + 1 : Nat) : Int) := by first | exact kn7_go qt1083 hg1019 | (rw [qt1083, hg1019]; omega)
                                  refine va_put (D := D) (ci := 12) (v := .int t1083) (ty := .int) (C := RX12) (T := TX12) (N := 48) hx hb hg inC12 tyX12 tyX12_ok nmX12 hown hK hP hD hS 0 rfl rfl 22 (by decide) (hg _ wt5_182) (fun _ h9 => h9) rfl (by decide +kernel) rfl rfl (Nat.le_of_ble_eq_true rfl) dX12_tells_345 (fun H locs hP hD hS => ?_)
                                  have hP : va_P D vwCl (mW K o r (upd u1016 22 t1083) a_778 g) H := hP
                                  have hD : va_D A (mW K o r (upd u1016 22 t1083) a_778 g) := hD
                                  refine k_gen (P := fun z => va_P D vwCl (mW K o r z a_778 g) H ∧ va_D A (mW K o r z a_778 g) ∧ (mI z a_778) ∧ (mE (XR []) f a z a_778) ∧ (mZ [22, 23, 24, 25] [26] f a z a_778) ∧ (eS z a_778 t false)) (upd u1016 22 t1083) ⟨hP, hD, (mI_f hI (fI_st hI.1 22 (kb_any _) (by decide) (by decide))), (mE_f hE (by decide)), (mZ_f hZ rfl), (eS_f hk0 (by decide) (by decide))⟩ (fun f_1086 ef_1086 hq => ?_)
                                  obtain ⟨hP, hD, hI, hE, hZ, hk0⟩ := hq
                                  refine lv_goto (tgt := 198) hx hb dX12_tells_348 (by decide) ?_
                                  exact ihlp794 (jj + 1) (cc + 1) f_1086 _ _ _ 0 (by first | exact kn7_ml hmlp794 | (have w1 := hmlp794; omega)) hI hE hZ hk0 (kbl_w kcl_0 (by decide) (by decide)) (by rw [(show f_1086 22 = t1083 from kn7_u1 ef_1086 rfl)]; exact hg1085) (hnx.elim (fun q => Or.inl ⟨q.1, q.2.2.symm⟩) (fun q => Or.inr ⟨q.1, by first | exact kn7_sl q.2 | (have w1 := q.2; omega)⟩)) (by rw [lastOf_s, ct_y (hhk.trans (by rw [← c1038]; decide +kernel)) (by have w1 := mt_1 hr1023 c1045; rw [kb_11 b1037] at w1; exact w1) (mr_s hr1004 c1052)]; show (0 : Int64).toInt = max 0 (min hi.toInt (v996.toInt)); have w0 := bhi.1; have k0 : (0 : Int64).toInt = 0 := (by decide +kernel); have k1 : (1 : Int64).toInt = 1 := (by decide +kernel); omega) (by first | exact Nat.succ_le_of_lt hcs.1 | (have w1 := hcs.1; omega)) hP hD hS (lv_sub hl [0, 5, 6, 7, 8, 9, 10] rfl)
                  · exact kb_dj c994 kc_2 kc_4 (by decide)
              · subst hj
                refine lv_aload_n hx hb dX12_tells_198 rfl (lv_at hl 1 rfl) ?_
                refine va_get (D := D) (ci := 12) (v := .int (F793 22)) (C := RX12) (T := TX12) (N := 48) hx hb hg inC12 hown hK hP 0 rfl rfl 22 (by decide) (hg _ wt5_182) (fun _ h9 => h9) rfl dX12_tells_199 ?_
                refine k_top (z := gv797) egv797.symm ?_
                refine lv_aload_n hx hb dX12_tells_202 rfl (lv_at hl 1 rfl) ?_
                refine va_get (D := D) (ci := 12) (v := .int (F793 23)) (C := RX12) (T := TX12) (N := 48) hx hb hg inC12 hown hK hP 0 rfl rfl 23 (by decide) (hg _ wt5_183) (fun _ h9 => h9) rfl dX12_tells_203 ?_
                refine lv_topi (fun t1087 et1087 => ?_)
                refine lv_icmp_ge (tgt := 351) hx hb dX12_tells_206 (by decide) (fun c1088 => ?_) (fun c1088 => ?_)
                · exact absurd (kc_le c1088) (by have w1 := congrArg Int32.toInt et1087.symm; have w2 := hk0.2.1; have w3 := hg798; have w4 := mC_lS hk0 (ne_0 (tq_y hp2 (x := 2) (y := 2005) (by decide +kernel) (by decide +kernel) h1) (by decide +kernel)); omega)
                · have h1089 := (kc_nle c1088)
                  have b1090 : kb 1 t1087 2147483647 := kr_lt2 h1089 b981 (kb_any t1087) (by decide)
                  refine lv_aload_n hx hb dX12_tells_209 rfl (lv_at hl 1 rfl) ?_
                  refine lv_aload_n hx hb dX12_tells_210 rfl (lv_at hl 1 rfl) ?_
                  refine va_get (D := D) (ci := 12) (v := .int (F793 22)) (C := RX12) (T := TX12) (N := 48) hx hb hg inC12 hown hK hP 0 rfl rfl 22 (by decide) (hg _ wt5_182) (fun _ h9 => h9) rfl dX12_tells_211 ?_
                  refine k_top (z := gv797) egv797.symm ?_
                  refine kI.callV (As := [.int gv797]) (rest := []) ⟨hx, hb, hml, hown, hg⟩ (m_codeAt l o r F793 a_778 g hI gv797  t (i) false hk0 hg798) (cwV 1 hg (kgV wt7_47 wt7_49 wp5_8 wt1_14 wt7_50) rfl rfl rfl (by decide +kernel) ⟨by decide, by decide⟩) hK hP hD hS hA mIs [] rfl (wr := []) rfl rfl rfl (fun i h => by cases h) 0 12 rfl rfl rfl hl.1 rfl (Nat.le_of_ble_eq_true rfl) dX12_tells_214 ⟨Nat.le_refl _, Nat.le_refl _⟩ (fun v1092 u1093 H locs hw1091 hP hD hS => ?_)
                  have hP : va_P D vwCl (mW K o r F793 a_778 g) H := hP
                  have hD : va_D A (mW K o r F793 a_778 g) := hD
                  refine k_top (z := 2) (hw1091.2.trans (tq_y hp2 (x := 2) (y := 2005) (by decide +kernel) (by decide +kernel) h1)) ?_
                  refine lv_istore (lv' := [(8, .int 2), (6, .long y792), (0, .ref o), (1, .int hd), (2, .int bd), (3, .int pt), (4, .int hi), (5, .int wo)]) hx hb dX12_tells_217 hl (by decide) rfl (fun ls hl => ?_)
                  refine lv_aload_n hx hb dX12_tells_219 rfl (lv_at hl 2 rfl) ?_
                  refine lv_iconst (v := 0) hx hb dX12_tells_220 (by decide) ?_
                  refine va_put (D := D) (ci := 12) (v := .int 0) (ty := .boolean) (C := RX12) (T := TX12) (N := 48) hx hb hg inC12 tyX12 tyX12_ok nmX12 hown hK hP hD hS 0 rfl rfl 24 (by decide) (hg _ wt5_184) (fun _ h9 => h9) rfl (by decide +kernel) rfl rfl (Nat.le_of_ble_eq_true rfl) dX12_tells_221 (fun H locs hP hD hS => ?_)
                  have hP : va_P D vwCl (mW K o r (upd F793 24 0) a_778 g) H := hP
                  have hD : va_D A (mW K o r (upd F793 24 0) a_778 g) := hD
                  refine k_gen (P := fun z => va_P D vwCl (mW K o r z a_778 g) H ∧ va_D A (mW K o r z a_778 g) ∧ (mI z a_778) ∧ (mE (XR []) f a z a_778) ∧ (mZ [22, 23, 24, 25] [26] f a z a_778) ∧ (eS z a_778 t false)) (upd F793 24 0) ⟨hP, hD, (mI_f hI (fI_st hI.1 24 kc_0 (by decide) (by decide))), (mE_f hE (by decide)), (mZ_f hZ rfl), (eS_f hk0 (by decide) (by decide))⟩ (fun f_1094 ef_1094 hq => ?_)
                  obtain ⟨hP, hD, hI, hE, hZ, hk0⟩ := hq
                  refine lv_aload_n hx hb dX12_tells_224 rfl (lv_at hl 2 rfl) ?_
                  refine lv_dup hx hb dX12_tells_225 rfl ?_
                  refine va_get (D := D) (ci := 12) (v := .int (f_1094 22)) (C := RX12) (T := TX12) (N := 48) hx hb hg inC12 hown hK hP 0 rfl rfl 22 (by decide) (hg _ wt5_182) (fun _ h9 => h9) rfl dX12_tells_226 ?_
                  refine k_top (z := gv797) ((show f_1094 22 = F793 22 from kn7_u1 ef_1094 rfl).trans egv797.symm) ?_
                  refine lv_iconst (v := 1) hx hb dX12_tells_229 (by decide) ?_
                  refine lv_iadd hx hb dX12_tells_230 ?_
                  refine lv_topi (fun t1095 et1095 => ?_)
                  have b1096 : kb 1 t1095 2800 := kb_eq et1095 (kb_add b981 kc_1 (by decide) (by decide))
                  have qt1095 : t1095.toInt = gv797.toInt + 1 := by rw [et1095]; exact kt_addc b981 kc_1 (by decide) (by decide)
                  have hg1097 : t1095.toInt = 400 * (t : Int) + ((i + 1 : Nat) : Int) := by first | exact kn7_go qt1095 hg798 | (rw [qt1095, hg798]; omega)
                  refine va_put (D := D) (ci := 12) (v := .int t1095) (ty := .int) (C := RX12) (T := TX12) (N := 48) hx hb hg inC12 tyX12 tyX12_ok nmX12 hown hK hP hD hS 0 rfl rfl 22 (by decide) (hg _ wt5_182) (fun _ h9 => h9) rfl (by decide +kernel) rfl rfl (Nat.le_of_ble_eq_true rfl) dX12_tells_231 (fun H locs hP hD hS => ?_)
                  have hP : va_P D vwCl (mW K o r (upd f_1094 22 t1095) a_778 g) H := hP
                  have hD : va_D A (mW K o r (upd f_1094 22 t1095) a_778 g) := hD
                  refine k_gen (P := fun z => va_P D vwCl (mW K o r z a_778 g) H ∧ va_D A (mW K o r z a_778 g) ∧ (mI z a_778) ∧ (mE (XR []) f a z a_778) ∧ (mZ [22, 23, 24, 25] [26] f a z a_778) ∧ (eS z a_778 t false)) (upd f_1094 22 t1095) ⟨hP, hD, (mI_f hI (fI_st hI.1 22 (kb_any _) (by decide) (by decide))), (mE_f hE (by decide)), (mZ_f hZ rfl), (eS_f hk0 (by decide) (by decide))⟩ (fun f_1098 ef_1098 hq => ?_)
                  obtain ⟨hP, hD, hI, hE, hZ, hk0⟩ := hq
                  refine lv_iload hx hb dX12_tells_234 (lv_at hl 0 rfl) ?_
                  refine lv_iconst (v := 4) hx hb dX12_tells_236 (by decide) ?_
                  refine lv_icmp_ne (tgt := 244) hx hb dX12_tells_237 (by decide) (fun c1099 => ?_) (fun c1099 => ?_)
                  · refine lv_aload_n hx hb dX12_tells_244 rfl (lv_at hl 2 rfl) ?_
                    refine lv_iconst (v := 1) hx hb dX12_tells_245 (by decide) ?_
                    refine kL.callV (As := [.int 1]) (rest := []) ⟨hx, hb, hml, hown, hg⟩ ((n_allSum 8) l o r f_1098 a_778 g hI 1 (kb_w kc_1 (by decide) (by decide)) t (i + 1) (jj) false T (lwW (a 2) bd pt) ((DD (a 2 106).toInt.toNat).2.2.2.2.1 cc) hk0 (by rw [(show f_1098 22 = t1095 from kn7_u1 ef_1098 rfl)]; exact hg1097) hp2 (hp3 f_1098) hs) (cwV 1 hg (kgV wt7_51 wt7_53 wp5_9 wt1_14 wt7_54) rfl rfl rfl (by decide +kernel) ⟨by decide, by decide⟩) hK hP hD hS hA mIs [] rfl (wr := []) rfl rfl rfl (fun i h => by cases h) 0 12 rfl rfl rfl hl.1 rfl (Nat.le_of_ble_eq_true rfl) dX12_tells_246 ⟨Nat.le_refl _, Nat.le_refl _⟩ (fun v1101 u1102 H locs hw1100 hP hD hS => ?_)
                    have hP : va_P D vwCl (mW K o r u1102 a_778 g) H := hP
                    have hD : va_D A (mW K o r u1102 a_778 g) := hD
                    have hI : mI u1102 a_778 := hw1100.2.1
                    have eE1103 : fE [22, 24] f_1098 u1102 := hw1100.2.2.1
                    have hE : mE (XR []) f a u1102 a_778 := mE_fE hE eE1103 (by decide)
                    have hZ : mZ [22, 23, 24, 25] [26] f a u1102 a_778 := mZ_fE hZ (fE_w (by decide) eE1103)
                    have hk0 : eS u1102 a_778 t false := eS_fE eE1103 hk0 (by decide) (by decide)
                    obtain ⟨gv1104, egv1104⟩ : ∃ z : Int32, z = u1102 22 := ⟨_, rfl⟩
                    have hg1105 : gv1104.toInt = 400 * (t : Int) + ((jj : Nat) : Int) := by rw [egv1104]; exact hw1100.2.2.2.1
                    have b1106 : kb 0 gv1104 2801 := kb_go1 hk0 (by have w1 := hk0.2.2.2.2; omega) hg1105
                    obtain ⟨bq1107, ebq1107⟩ : ∃ z : Int32, z = u1102 24 := ⟨_, rfl⟩
                    have b1108 : kb 0 bq1107 1 := kb_eq ebq1107 (fI_at hI.1 24 (by decide) (by decide))
                    have hr1109 : mRs 1 0 (((DD (a 2 106).toInt.toNat).2.2.2.2.1 cc) (lwW (a 2) bd pt)) bq1107 v1101.toInt := by have w1 := hw1100.2.2.2.2; rw [((show f_1098 24 = f_1094 24 from kn7_u1 ef_1098 rfl).trans (show f_1094 24 = 0 from kn7_u1 ef_1094 rfl)), ← ebq1107] at w1; exact w1
                    refine lv_lstore (lv' := [(9, .long v1101), (8, .int 2), (6, .long y792), (0, .ref o), (1, .int hd), (2, .int bd), (3, .int pt), (4, .int hi), (5, .int wo)]) hx hb dX12_tells_249 hl (by decide) rfl (fun ls hl => ?_)
                    refine lv_aload_n hx hb dX12_tells_251 rfl (lv_at hl 3 rfl) ?_
                    refine va_get (D := D) (ci := 12) (v := .int (u1102 24)) (C := RX12) (T := TX12) (N := 48) hx hb hg inC12 hown hK hP 0 rfl rfl 24 (by decide) (hg _ wt5_184) (fun _ h9 => h9) rfl dX12_tells_252 ?_
                    refine k_top (z := bq1107) ebq1107.symm ?_
                    refine lv_istore (lv' := [(11, .int bq1107), (9, .long v1101), (8, .int 2), (6, .long y792), (0, .ref o), (1, .int hd), (2, .int bd), (3, .int pt), (4, .int hi), (5, .int wo)]) hx hb dX12_tells_255 hl (by decide) rfl (fun ls hl => ?_)
                    refine lv_aload_n hx hb dX12_tells_257 rfl (lv_at hl 4 rfl) ?_
                    refine lv_iconst (v := 0) hx hb dX12_tells_258 (by decide) ?_
                    refine va_put (D := D) (ci := 12) (v := .int 0) (ty := .boolean) (C := RX12) (T := TX12) (N := 48) hx hb hg inC12 tyX12 tyX12_ok nmX12 hown hK hP hD hS 0 rfl rfl 24 (by decide) (hg _ wt5_184) (fun _ h9 => h9) rfl (by decide +kernel) rfl rfl (Nat.le_of_ble_eq_true rfl) dX12_tells_259 (fun H locs hP hD hS => ?_)
                    have hP : va_P D vwCl (mW K o r (upd u1102 24 0) a_778 g) H := hP
                    have hD : va_D A (mW K o r (upd u1102 24 0) a_778 g) := hD
                    refine k_gen (P := fun z => va_P D vwCl (mW K o r z a_778 g) H ∧ va_D A (mW K o r z a_778 g) ∧ (mI z a_778) ∧ (mE (XR []) f a z a_778) ∧ (mZ [22, 23, 24, 25] [26] f a z a_778) ∧ (eS z a_778 t false)) (upd u1102 24 0) ⟨hP, hD, (mI_f hI (fI_st hI.1 24 kc_0 (by decide) (by decide))), (mE_f hE (by decide)), (mZ_f hZ rfl), (eS_f hk0 (by decide) (by decide))⟩ (fun f_1110 ef_1110 hq => ?_)
                    obtain ⟨hP, hD, hI, hE, hZ, hk0⟩ := hq
                    refine lv_aload_n hx hb dX12_tells_262 rfl (lv_at hl 4 rfl) ?_
                    refine lv_iconst (v := 5) hx hb dX12_tells_263 (by decide) ?_
                    refine kI.callV (As := [.int 5]) (rest := []) ⟨hx, hb, hml, hown, hg⟩ (m_passes0 l o r f_1110 a_778 g hI 5 (kb_w kc_5 (by decide) (by decide)) t (jj) false hk0 (by rw [((show f_1110 22 = u1102 22 from kn7_u1 ef_1110 rfl).trans egv1104.symm)]; exact hg1105)) (cwV 1 hg (kgV wt7_63 wt7_65 wp5_12 wt1_14 wt7_66) rfl rfl rfl (by decide +kernel) ⟨by decide, by decide⟩) hK hP hD hS hA mIs [] rfl (wr := []) rfl rfl rfl (fun i h => by cases h) 0 12 rfl rfl rfl hl.1 rfl (Nat.le_of_ble_eq_true rfl) dX12_tells_264 ⟨Nat.le_refl _, Nat.le_refl _⟩ (fun v1112 u1113 H locs hw1111 hP hD hS => ?_)
                    have hP : va_P D vwCl (mW K o r u1113 a_778 g) H := hP
                    have hD : va_D A (mW K o r u1113 a_778 g) := hD
                    have hI : mI u1113 a_778 := hw1111.2.1
                    have eE1114 : fE [22] f_1110 u1113 := hw1111.2.2.1
                    have hE : mE (XR []) f a u1113 a_778 := mE_fE hE eE1114 (by decide)
                    have hZ : mZ [22, 23, 24, 25] [26] f a u1113 a_778 := mZ_fE hZ (fE_w (by decide) eE1114)
                    have hk0 : eS u1113 a_778 t false := eS_fE eE1114 hk0 (by decide) (by decide)
                    have hz1115 := pass_n hw1111.2.2.2 (tq_n hp2 (x := 5) (y := 2003) (by decide +kernel) (by decide +kernel) h2)
                    refine k_top (z := 0) hz1115.1 ?_
                    obtain ⟨gv1116, egv1116⟩ : ∃ z : Int32, z = u1113 22 := ⟨_, rfl⟩
                    have hg1117 : gv1116.toInt = 400 * (t : Int) + ((jj : Nat) : Int) := by rw [egv1116]; exact hz1115.2
                    have b1118 : kb 0 gv1116 2801 := kb_go1 hk0 (by have w1 := hk0.2.2.2.2; omega) hg1117
                    refine lv_if_eq (tgt := 278) hx hb dX12_tells_267 (by decide) (fun c1119 => ?_) (fun c1119 => ?_)
                    · refine lv_iconst (v := 1) hx hb dX12_tells_278 (by decide) ?_
                      refine lv_goto (tgt := 283) hx hb dX12_tells_279 (by decide) ?_
                      refine lv_istore (lv' := [(12, .int 1), (11, .int bq1107), (9, .long v1101), (8, .int 2), (6, .long y792), (0, .ref o), (1, .int hd), (2, .int bd), (3, .int pt), (4, .int hi), (5, .int wo)]) hx hb dX12_tells_283 hl (by decide) rfl (fun ls hl => ?_)
                      refine lv_iload hx hb dX12_tells_285 (lv_at hl 3 rfl) ?_
                      refine lv_iload_n hx hb dX12_tells_287 rfl (lv_at hl 6 rfl) ?_
                      refine lv_icmp_ne (tgt := 338) hx hb dX12_tells_288 (by decide) (fun c1120 => ?_) (fun c1120 => ?_)
                      · refine lv_aload_n hx hb dX12_tells_338 rfl (lv_at hl 5 rfl) ?_
                        refine lv_dup hx hb dX12_tells_339 rfl ?_
                        refine va_get (D := D) (ci := 12) (v := .int (u1113 22)) (C := RX12) (T := TX12) (N := 48) hx hb hg inC12 hown hK hP 0 rfl rfl 22 (by decide) (hg _ wt5_182) (fun _ h9 => h9) rfl dX12_tells_340 ?_
                        refine k_top (z := gv1116) egv1116.symm ?_
                        refine lv_iconst (v := 1) hx hb dX12_tells_343 (by decide) ?_
                        refine lv_iadd hx hb dX12_tells_344 ?_
                        refine lv_topi (fun t1121 et1121 => ?_)
                        have b1122 : kb 1 t1121 2802 := kb_eq et1121 (kb_add b1118 kc_1 (by decide) (by decide))
                        have qt1121 : t1121.toInt = gv1116.toInt + 1 := by rw [et1121]; exact kt_addc b1118 kc_1 (by decide) (by decide)
                        have hg1123 : t1121.toInt = 400 * (t : Int) + ((jj + 1 : Nat) : Int) := by first | exact kn7_go qt1121 hg1117 | (rw [qt1121, hg1117]; omega)
                        refine va_put (D := D) (ci := 12) (v := .int t1121) (ty := .int) (C := RX12) (T := TX12) (N := 48) hx hb hg inC12 tyX12 tyX12_ok nmX12 hown hK hP hD hS 0 rfl rfl 22 (by decide) (hg _ wt5_182) (fun _ h9 => h9) rfl (by decide +kernel) rfl rfl (Nat.le_of_ble_eq_true rfl) dX12_tells_345 (fun H locs hP hD hS => ?_)
                        have hP : va_P D vwCl (mW K o r (upd u1113 22 t1121) a_778 g) H := hP
                        have hD : va_D A (mW K o r (upd u1113 22 t1121) a_778 g) := hD
                        refine k_gen (P := fun z => va_P D vwCl (mW K o r z a_778 g) H ∧ va_D A (mW K o r z a_778 g) ∧ (mI z a_778) ∧ (mE (XR []) f a z a_778) ∧ (mZ [22, 23, 24, 25] [26] f a z a_778) ∧ (eS z a_778 t false)) (upd u1113 22 t1121) ⟨hP, hD, (mI_f hI (fI_st hI.1 22 (kb_any _) (by decide) (by decide))), (mE_f hE (by decide)), (mZ_f hZ rfl), (eS_f hk0 (by decide) (by decide))⟩ (fun f_1124 ef_1124 hq => ?_)
                        obtain ⟨hP, hD, hI, hE, hZ, hk0⟩ := hq
                        refine lv_goto (tgt := 198) hx hb dX12_tells_348 (by decide) ?_
                        exact ihlp794 (jj + 1) (cc + 1) f_1124 _ _ _ y792 (by first | exact kn7_ml hmlp794 | (have w1 := hmlp794; omega)) hI hE hZ hk0 b796 (by rw [(show f_1124 22 = t1121 from kn7_u1 ef_1124 rfl)]; exact hg1123) (hnx.elim (fun q => Or.inl ⟨q.1, q.2.2.symm⟩) (fun q => Or.inr ⟨q.1, by first | exact kn7_sl q.2 | (have w1 := q.2; omega)⟩)) (by rw [lastOf_s, ct_n (fun q => c1120 (Int32.toInt_inj.mp (by first | exact (kHd_j (hhk.symm.trans q) bhd).trans (by decide +kernel) | (have w1 := kHd_j (hhk.symm.trans q) bhd; have w2 : (2 : Int32).toInt = 2 := (by decide +kernel); omega))))]; exact htd) (by first | exact Nat.succ_le_of_lt hcs.1 | (have w1 := hcs.1; omega)) hP hD hS (lv_sub hl [4, 5, 6, 7, 8, 9, 10] rfl)
                      · have b1125 : kb 2 hd 2 := kb_eq c1120.symm kc_2
                        refine lv_iload hx hb dX12_tells_291 (lv_at hl 0 rfl) ?_
                        refine lv_if_eq (tgt := 338) hx hb dX12_tells_293 (by decide) (fun c1126 => ?_) (fun c1126 => ?_)
                        · exact kb_dj c1126 kc_1 kc_0 (by decide)
                        · refine lv_aload_n hx hb dX12_tells_296 rfl (lv_at hl 5 rfl) ?_
                          refine va_get (D := D) (ci := 12) (v := .int (u1113 24)) (C := RX12) (T := TX12) (N := 48) hx hb hg inC12 hown hK hP 0 rfl rfl 24 (by decide) (hg _ wt5_184) (fun _ h9 => h9) rfl dX12_tells_297 ?_
                          refine k_top (z := 0) ((eE1114 24 (by decide)).trans (show f_1110 24 = 0 from kn7_u1 ef_1110 rfl)) ?_
                          refine lv_if_ne (tgt := 338) hx hb dX12_tells_300 (by decide) (fun c1127 => ?_) (fun c1127 => ?_)
                          · exact kb_nsame c1127 kc_0 kc_0
                          · refine lv_iload hx hb dX12_tells_303 (lv_at hl 1 rfl) ?_
                            refine lv_if_ne (tgt := 338) hx hb dX12_tells_305 (by decide) (fun c1128 => ?_) (fun c1128 => ?_)
                            · have b1129 : kb 1 bq1107 1 := kr_nel c1128 b1108 kc_0 (by decide)
                              refine lv_aload_n hx hb dX12_tells_338 rfl (lv_at hl 5 rfl) ?_
                              refine lv_dup hx hb dX12_tells_339 rfl ?_
                              refine va_get (D := D) (ci := 12) (v := .int (u1113 22)) (C := RX12) (T := TX12) (N := 48) hx hb hg inC12 hown hK hP 0 rfl rfl 22 (by decide) (hg _ wt5_182) (fun _ h9 => h9) rfl dX12_tells_340 ?_
                              refine k_top (z := gv1116) egv1116.symm ?_
                              refine lv_iconst (v := 1) hx hb dX12_tells_343 (by decide) ?_
                              refine lv_iadd hx hb dX12_tells_344 ?_
                              refine lv_topi (fun t1130 et1130 => ?_)
                              have b1131 : kb 1 t1130 2802 := kb_eq et1130 (kb_add b1118 kc_1 (by decide) (by decide))
                              have qt1130 : t1130.toInt = gv1116.toInt + 1 := by rw [et1130]; exact kt_addc b1118 kc_1 (by decide) (by decide)
                              have hg1132 : t1130.toInt = 400 * (t : Int) + ((jj + 1 : Nat) : Int) := by first | exact kn7_go qt1130 hg1117 | (rw [qt1130, hg1117]; omega)
                              refine va_put (D := D) (ci := 12) (v := .int t1130) (ty := .int) (C := RX12) (T := TX12) (N := 48) hx hb hg inC12 tyX12 tyX12_ok nmX12 hown hK hP hD hS 0 rfl rfl 22 (by decide) (hg _ wt5_182) (fun _ h9 => h9) rfl (by decide +kernel) rfl rfl (Nat.le_of_ble_eq_true rfl) dX12_tells_345 (fun H locs hP hD hS => ?_)
                              have hP : va_P D vwCl (mW K o r (upd u1113 22 t1130) a_778 g) H := hP
                              have hD : va_D A (mW K o r (upd u1113 22 t1130) a_778 g) := hD
                              refine k_gen (P := fun z => va_P D vwCl (mW K o r z a_778 g) H ∧ va_D A (mW K o r z a_778 g) ∧ (mI z a_778) ∧ (mE (XR []) f a z a_778) ∧ (mZ [22, 23, 24, 25] [26] f a z a_778) ∧ (eS z a_778 t false)) (upd u1113 22 t1130) ⟨hP, hD, (mI_f hI (fI_st hI.1 22 (kb_any _) (by decide) (by decide))), (mE_f hE (by decide)), (mZ_f hZ rfl), (eS_f hk0 (by decide) (by decide))⟩ (fun f_1133 ef_1133 hq => ?_)
                              obtain ⟨hP, hD, hI, hE, hZ, hk0⟩ := hq
                              refine lv_goto (tgt := 198) hx hb dX12_tells_348 (by decide) ?_
                              exact ihlp794 (jj + 1) (cc + 1) f_1133 _ _ _ y792 (by first | exact kn7_ml hmlp794 | (have w1 := hmlp794; omega)) hI hE hZ hk0 b796 (by rw [(show f_1133 22 = t1130 from kn7_u1 ef_1133 rfl)]; exact hg1132) (hnx.elim (fun q => Or.inl ⟨q.1, q.2.2.symm⟩) (fun q => Or.inr ⟨q.1, by first | exact kn7_sl q.2 | (have w1 := q.2; omega)⟩)) (by rw [lastOf_s, ct_b (mr_n hr1109 c1128)]; exact htd) (by first | exact Nat.succ_le_of_lt hcs.1 | (have w1 := hcs.1; omega)) hP hD hS (lv_sub hl [4, 5, 6, 7, 8, 9, 10] rfl)
                            · have b1134 : kb 0 bq1107 0 := kb_eq c1128 kc_0
                              refine lv_lload hx hb dX12_tells_308 (lv_at hl 2 rfl) ?_
                              refine lv_lconst (v := 0) hx hb dX12_tells_310 (by decide) ?_
                              refine W.lcmp hx hb dX12_tells_311 ?_
                              refine lv_topi (fun t1135 et1135 => ?_)
                              refine lv_if_ge (tgt := 319) hx hb dX12_tells_312 (by decide) (fun c1136 => ?_) (fun c1136 => ?_)
                              · have h1137 := klc_ge (et1135 ▸ c1136)
                                have b1138 : kbl 0 v1101 9223372036854775807 := klr_le2 h1137 kcl_0 (kbl_any v1101)
                                refine lv_lload hx hb dX12_tells_319 (lv_at hl 2 rfl) ?_
                                refine lv_iload hx hb dX12_tells_321 (lv_at hl 9 rfl) ?_
                                refine lv_i2l hx hb dX12_tells_323 rfl ?_
                                refine lv_topl (fun t1139 et1139 => ?_)
                                have b1140 : kbl 0 t1139 20 := kbl_eq et1139 (kbl_i2l bhi)
                                refine W.lcmp hx hb dX12_tells_324 ?_
                                refine lv_topi (fun t1141 et1141 => ?_)
                                refine lv_if_le (tgt := 334) hx hb dX12_tells_325 (by decide) (fun c1142 => ?_) (fun c1142 => ?_)
                                · have h1143 := klc_le (et1141 ▸ c1142)
                                  have b1144 : kbl 0 v1101 20 := klr_le1 h1143 b1138 b1140
                                  refine lv_lload hx hb dX12_tells_334 (lv_at hl 2 rfl) ?_
                                  refine lv_lstore (lv' := [(6, .long v1101), (12, .int 1), (11, .int bq1107), (9, .long v1101), (8, .int 2), (0, .ref o), (1, .int hd), (2, .int bd), (3, .int pt), (4, .int hi), (5, .int wo)]) hx hb dX12_tells_336 hl (by decide) rfl (fun ls hl => ?_)
                                  refine lv_aload_n hx hb dX12_tells_338 rfl (lv_at hl 5 rfl) ?_
                                  refine lv_dup hx hb dX12_tells_339 rfl ?_
                                  refine va_get (D := D) (ci := 12) (v := .int (u1113 22)) (C := RX12) (T := TX12) (N := 48) hx hb hg inC12 hown hK hP 0 rfl rfl 22 (by decide) (hg _ wt5_182) (fun _ h9 => h9) rfl dX12_tells_340 ?_
                                  refine k_top (z := gv1116) egv1116.symm ?_
                                  refine lv_iconst (v := 1) hx hb dX12_tells_343 (by decide) ?_
                                  refine lv_iadd hx hb dX12_tells_344 ?_
                                  refine lv_topi (fun t1145 et1145 => ?_)
                                  have b1146 : kb 1 t1145 2802 := kb_eq et1145 (kb_add b1118 kc_1 (by decide) (by decide))
                                  have qt1145 : t1145.toInt = gv1116.toInt + 1 := by rw [et1145]; exact kt_addc b1118 kc_1 (by decide) (by decide)
                                  have hg1147 : t1145.toInt = 400 * (t : Int) + ((jj + 1 : Nat) : Int) := by first | exact kn7_go qt1145 hg1117 | (rw [qt1145, hg1117]; omega)
                                  refine va_put (D := D) (ci := 12) (v := .int t1145) (ty := .int) (C := RX12) (T := TX12) (N := 48) hx hb hg inC12 tyX12 tyX12_ok nmX12 hown hK hP hD hS 0 rfl rfl 22 (by decide) (hg _ wt5_182) (fun _ h9 => h9) rfl (by decide +kernel) rfl rfl (Nat.le_of_ble_eq_true rfl) dX12_tells_345 (fun H locs hP hD hS => ?_)
                                  have hP : va_P D vwCl (mW K o r (upd u1113 22 t1145) a_778 g) H := hP
                                  have hD : va_D A (mW K o r (upd u1113 22 t1145) a_778 g) := hD
                                  refine k_gen (P := fun z => va_P D vwCl (mW K o r z a_778 g) H ∧ va_D A (mW K o r z a_778 g) ∧ (mI z a_778) ∧ (mE (XR []) f a z a_778) ∧ (mZ [22, 23, 24, 25] [26] f a z a_778) ∧ (eS z a_778 t false)) (upd u1113 22 t1145) ⟨hP, hD, (mI_f hI (fI_st hI.1 22 (kb_any _) (by decide) (by decide))), (mE_f hE (by decide)), (mZ_f hZ rfl), (eS_f hk0 (by decide) (by decide))⟩ (fun f_1148 ef_1148 hq => ?_)
                                  obtain ⟨hP, hD, hI, hE, hZ, hk0⟩ := hq
                                  refine lv_goto (tgt := 198) hx hb dX12_tells_348 (by decide) ?_
                                  exact ihlp794 (jj + 1) (cc + 1) f_1148 _ _ _ v1101 (by first | exact kn7_ml hmlp794 | (have w1 := hmlp794; omega)) hI hE hZ hk0 b1144 (by rw [(show f_1148 22 = t1145 from kn7_u1 ef_1148 rfl)]; exact hg1147) (hnx.elim (fun q => Or.inl ⟨q.1, q.2.2.symm⟩) (fun q => Or.inr ⟨q.1, by first | exact kn7_sl q.2 | (have w1 := q.2; omega)⟩)) (by rw [lastOf_s, ct_y (hhk.trans (by rw [← c1120]; decide +kernel)) (by rw [hv3]; rfl) (mr_s hr1109 c1128)]; show (v1101 : Int64).toInt = max 0 (min hi.toInt (v1101.toInt)); have w0 := bhi.1; have k0 : (0 : Int64).toInt = 0 := (by decide +kernel); have k1 : (1 : Int64).toInt = 1 := (by decide +kernel); have k9t1139 : t1139.toInt = hi.toInt := (congrArg Int64.toInt et1139).trans (kt_i2l _); omega) (by first | exact Nat.succ_le_of_lt hcs.1 | (have w1 := hcs.1; omega)) hP hD hS (lv_sub hl [0, 5, 6, 7, 8, 9, 10] rfl)
                                · have h1149 := klc_nle (et1141 ▸ c1142)
                                  have b1150 : kbl 1 v1101 9223372036854775807 := klr_lt2 h1149 b1140 b1138 (by decide)
                                  refine lv_iload hx hb dX12_tells_328 (lv_at hl 9 rfl) ?_
                                  refine lv_i2l hx hb dX12_tells_330 rfl ?_
                                  refine lv_topl (fun t1151 et1151 => ?_)
                                  have b1152 : kbl 0 t1151 20 := kbl_eq et1151 (kbl_i2l bhi)
                                  refine lv_goto (tgt := 336) hx hb dX12_tells_331 (by decide) ?_
                                  refine lv_lstore (lv' := [(6, .long t1151), (12, .int 1), (11, .int bq1107), (9, .long v1101), (8, .int 2), (0, .ref o), (1, .int hd), (2, .int bd), (3, .int pt), (4, .int hi), (5, .int wo)]) hx hb dX12_tells_336 hl (by decide) rfl (fun ls hl => ?_)
                                  refine lv_aload_n hx hb dX12_tells_338 rfl (lv_at hl 5 rfl) ?_
                                  refine lv_dup hx hb dX12_tells_339 rfl ?_
                                  refine va_get (D := D) (ci := 12) (v := .int (u1113 22)) (C := RX12) (T := TX12) (N := 48) hx hb hg inC12 hown hK hP 0 rfl rfl 22 (by decide) (hg _ wt5_182) (fun _ h9 => h9) rfl dX12_tells_340 ?_
                                  refine k_top (z := gv1116) egv1116.symm ?_
                                  refine lv_iconst (v := 1) hx hb dX12_tells_343 (by decide) ?_
                                  refine lv_iadd hx hb dX12_tells_344 ?_
                                  refine lv_topi (fun t1153 et1153 => ?_)
                                  have b1154 : kb 1 t1153 2802 := kb_eq et1153 (kb_add b1118 kc_1 (by decide) (by decide))
                                  have qt1153 : t1153.toInt = gv1116.toInt + 1 := by rw [et1153]; exact kt_addc b1118 kc_1 (by decide) (by decide)
                                  have hg1155 : t1153.toInt = 400 * (t : Int) + ((jj + 1 : Nat) : Int) := by first | exact kn7_go qt1153 hg1117 | (rw [qt1153, hg1117]; omega)
                                  refine va_put (D := D) (ci := 12) (v := .int t1153) (ty := .int) (C := RX12) (T := TX12) (N := 48) hx hb hg inC12 tyX12 tyX12_ok nmX12 hown hK hP hD hS 0 rfl rfl 22 (by decide) (hg _ wt5_182) (fun _ h9 => h9) rfl (by decide +kernel) rfl rfl (Nat.le_of_ble_eq_true rfl) dX12_tells_345 (fun H locs hP hD hS => ?_)
                                  have hP : va_P D vwCl (mW K o r (upd u1113 22 t1153) a_778 g) H := hP
                                  have hD : va_D A (mW K o r (upd u1113 22 t1153) a_778 g) := hD
                                  refine k_gen (P := fun z => va_P D vwCl (mW K o r z a_778 g) H ∧ va_D A (mW K o r z a_778 g) ∧ (mI z a_778) ∧ (mE (XR []) f a z a_778) ∧ (mZ [22, 23, 24, 25] [26] f a z a_778) ∧ (eS z a_778 t false)) (upd u1113 22 t1153) ⟨hP, hD, (mI_f hI (fI_st hI.1 22 (kb_any _) (by decide) (by decide))), (mE_f hE (by decide)), (mZ_f hZ rfl), (eS_f hk0 (by decide) (by decide))⟩ (fun f_1156 ef_1156 hq => ?_)
                                  obtain ⟨hP, hD, hI, hE, hZ, hk0⟩ := hq
                                  refine lv_goto (tgt := 198) hx hb dX12_tells_348 (by decide) ?_
                                  exact ihlp794 (jj + 1) (cc + 1) f_1156 _ _ _ t1151 (by first | exact kn7_ml hmlp794 | (have w1 := hmlp794; omega)) hI hE hZ hk0 b1152 (by rw [(show f_1156 22 = t1153 from kn7_u1 ef_1156 rfl)]; exact hg1155) (hnx.elim (fun q => Or.inl ⟨q.1, q.2.2.symm⟩) (fun q => Or.inr ⟨q.1, by first | exact kn7_sl q.2 | (have w1 := q.2; omega)⟩)) (by rw [lastOf_s, ct_y (hhk.trans (by rw [← c1120]; decide +kernel)) (by rw [hv3]; rfl) (mr_s hr1109 c1128)]; show (t1151 : Int64).toInt = max 0 (min hi.toInt (v1101.toInt)); have w0 := bhi.1; have k0 : (0 : Int64).toInt = 0 := (by decide +kernel); have k1 : (1 : Int64).toInt = 1 := (by decide +kernel); have k9 : t1151.toInt = hi.toInt := (congrArg Int64.toInt et1151).trans (kt_i2l _); have k9t1139 : t1139.toInt = hi.toInt := (congrArg Int64.toInt et1139).trans (kt_i2l _); have k9t1151 : t1151.toInt = hi.toInt := (congrArg Int64.toInt et1151).trans (kt_i2l _); omega) (by first | exact Nat.succ_le_of_lt hcs.1 | (have w1 := hcs.1; omega)) hP hD hS (lv_sub hl [0, 5, 6, 7, 8, 9, 10] rfl)
                              · have h1157 := klc_nge (et1135 ▸ c1136)
                                have b1158 : kbl (-9223372036854775808) v1101 (-1) := klr_lt1 h1157 (kbl_any v1101) kcl_0 (by decide)
                                refine lv_lconst (v := 0) hx hb dX12_tells_315 (by decide) ?_
                                refine lv_goto (tgt := 336) hx hb dX12_tells_316 (by decide) ?_
                                refine lv_lstore (lv' := [(6, .long 0), (12, .int 1), (11, .int bq1107), (9, .long v1101), (8, .int 2), (0, .ref o), (1, .int hd), (2, .int bd), (3, .int pt), (4, .int hi), (5, .int wo)]) hx hb dX12_tells_336 hl (by decide) rfl (fun ls hl => ?_)
                                refine lv_aload_n hx hb dX12_tells_338 rfl (lv_at hl 5 rfl) ?_
                                refine lv_dup hx hb dX12_tells_339 rfl ?_
                                refine va_get (D := D) (ci := 12) (v := .int (u1113 22)) (C := RX12) (T := TX12) (N := 48) hx hb hg inC12 hown hK hP 0 rfl rfl 22 (by decide) (hg _ wt5_182) (fun _ h9 => h9) rfl dX12_tells_340 ?_
                                refine k_top (z := gv1116) egv1116.symm ?_
                                refine lv_iconst (v := 1) hx hb dX12_tells_343 (by decide) ?_
                                refine lv_iadd hx hb dX12_tells_344 ?_
                                refine lv_topi (fun t1159 et1159 => ?_)
                                have b1160 : kb 1 t1159 2802 := kb_eq et1159 (kb_add b1118 kc_1 (by decide) (by decide))
                                have qt1159 : t1159.toInt = gv1116.toInt + 1 := by rw [et1159]; exact kt_addc b1118 kc_1 (by decide) (by decide)
                                have hg1161 : t1159.toInt = 400 * (t : Int) + ((jj + 1 : Nat) : Int) := by first | exact kn7_go qt1159 hg1117 | (rw [qt1159, hg1117]; omega)
                                refine va_put (D := D) (ci := 12) (v := .int t1159) (ty := .int) (C := RX12) (T := TX12) (N := 48) hx hb hg inC12 tyX12 tyX12_ok nmX12 hown hK hP hD hS 0 rfl rfl 22 (by decide) (hg _ wt5_182) (fun _ h9 => h9) rfl (by decide +kernel) rfl rfl (Nat.le_of_ble_eq_true rfl) dX12_tells_345 (fun H locs hP hD hS => ?_)
                                have hP : va_P D vwCl (mW K o r (upd u1113 22 t1159) a_778 g) H := hP
                                have hD : va_D A (mW K o r (upd u1113 22 t1159) a_778 g) := hD
                                refine k_gen (P := fun z => va_P D vwCl (mW K o r z a_778 g) H ∧ va_D A (mW K o r z a_778 g) ∧ (mI z a_778) ∧ (mE (XR []) f a z a_778) ∧ (mZ [22, 23, 24, 25] [26] f a z a_778) ∧ (eS z a_778 t false)) (upd u1113 22 t1159) ⟨hP, hD, (mI_f hI (fI_st hI.1 22 (kb_any _) (by decide) (by decide))), (mE_f hE (by decide)), (mZ_f hZ rfl), (eS_f hk0 (by decide) (by decide))⟩ (fun f_1162 ef_1162 hq => ?_)
                                obtain ⟨hP, hD, hI, hE, hZ, hk0⟩ := hq
                                refine lv_goto (tgt := 198) hx hb dX12_tells_348 (by decide) ?_
                                exact ihlp794 (jj + 1) (cc + 1) f_1162 _ _ _ 0 (by first | exact kn7_ml hmlp794 | (have w1 := hmlp794; omega)) hI hE hZ hk0 (kbl_w kcl_0 (by decide) (by decide)) (by rw [(show f_1162 22 = t1159 from kn7_u1 ef_1162 rfl)]; exact hg1161) (hnx.elim (fun q => Or.inl ⟨q.1, q.2.2.symm⟩) (fun q => Or.inr ⟨q.1, by first | exact kn7_sl q.2 | (have w1 := q.2; omega)⟩)) (by rw [lastOf_s, ct_y (hhk.trans (by rw [← c1120]; decide +kernel)) (by rw [hv3]; rfl) (mr_s hr1109 c1128)]; show (0 : Int64).toInt = max 0 (min hi.toInt (v1101.toInt)); have w0 := bhi.1; have k0 : (0 : Int64).toInt = 0 := (by decide +kernel); have k1 : (1 : Int64).toInt = 1 := (by decide +kernel); omega) (by first | exact Nat.succ_le_of_lt hcs.1 | (have w1 := hcs.1; omega)) hP hD hS (lv_sub hl [0, 5, 6, 7, 8, 9, 10] rfl)
                    · exact kb_nsame c1119 kc_0 kc_0
                  · exact kb_dj c1099 kc_2 kc_4 (by decide)
            · have b1163 : kb 0 gv797 2799 := kb_go hk0 (mC_lt hk0 (ne_0 (tq_y hp2 (x := 3) (y := 2006) (by decide +kernel) (by decide +kernel) h1) (by decide +kernel))) hg798
              have hhk : (DD (a 2 106).toInt.toNat).2.2.1 cc = kHd 2 := hhd.trans (h1.trans (by decide +kernel))
              rcases hif with ⟨h2, h3⟩ | ⟨h2, hj, hv3⟩
              · refine lv_aload_n hx hb dX12_tells_198 rfl (lv_at hl 1 rfl) ?_
                refine va_get (D := D) (ci := 12) (v := .int (F793 22)) (C := RX12) (T := TX12) (N := 48) hx hb hg inC12 hown hK hP 0 rfl rfl 22 (by decide) (hg _ wt5_182) (fun _ h9 => h9) rfl dX12_tells_199 ?_
                refine k_top (z := gv797) egv797.symm ?_
                refine lv_aload_n hx hb dX12_tells_202 rfl (lv_at hl 1 rfl) ?_
                refine va_get (D := D) (ci := 12) (v := .int (F793 23)) (C := RX12) (T := TX12) (N := 48) hx hb hg inC12 hown hK hP 0 rfl rfl 23 (by decide) (hg _ wt5_183) (fun _ h9 => h9) rfl dX12_tells_203 ?_
                refine lv_topi (fun t1164 et1164 => ?_)
                refine lv_icmp_ge (tgt := 351) hx hb dX12_tells_206 (by decide) (fun c1165 => ?_) (fun c1165 => ?_)
                · exact absurd (kc_le c1165) (by have w1 := congrArg Int32.toInt et1164.symm; have w2 := hk0.2.1; have w3 := hg798; have w4 := mC_lS hk0 (ne_0 (tq_y hp2 (x := 3) (y := 2006) (by decide +kernel) (by decide +kernel) h1) (by decide +kernel)); omega)
                · have h1166 := (kc_nle c1165)
                  have b1167 : kb 1 t1164 2147483647 := kr_lt2 h1166 b1163 (kb_any t1164) (by decide)
                  refine lv_aload_n hx hb dX12_tells_209 rfl (lv_at hl 1 rfl) ?_
                  refine lv_aload_n hx hb dX12_tells_210 rfl (lv_at hl 1 rfl) ?_
                  refine va_get (D := D) (ci := 12) (v := .int (F793 22)) (C := RX12) (T := TX12) (N := 48) hx hb hg inC12 hown hK hP 0 rfl rfl 22 (by decide) (hg _ wt5_182) (fun _ h9 => h9) rfl dX12_tells_211 ?_
                  refine k_top (z := gv797) egv797.symm ?_
                  refine kI.callV (As := [.int gv797]) (rest := []) ⟨hx, hb, hml, hown, hg⟩ (m_codeAt l o r F793 a_778 g hI gv797  t (i) false hk0 hg798) (cwV 1 hg (kgV wt7_47 wt7_49 wp5_8 wt1_14 wt7_50) rfl rfl rfl (by decide +kernel) ⟨by decide, by decide⟩) hK hP hD hS hA mIs [] rfl (wr := []) rfl rfl rfl (fun i h => by cases h) 0 12 rfl rfl rfl hl.1 rfl (Nat.le_of_ble_eq_true rfl) dX12_tells_214 ⟨Nat.le_refl _, Nat.le_refl _⟩ (fun v1169 u1170 H locs hw1168 hP hD hS => ?_)
                  have hP : va_P D vwCl (mW K o r F793 a_778 g) H := hP
                  have hD : va_D A (mW K o r F793 a_778 g) := hD
                  refine k_top (z := 3) (hw1168.2.trans (tq_y hp2 (x := 3) (y := 2006) (by decide +kernel) (by decide +kernel) h1)) ?_
                  refine lv_istore (lv' := [(8, .int 3), (6, .long y792), (0, .ref o), (1, .int hd), (2, .int bd), (3, .int pt), (4, .int hi), (5, .int wo)]) hx hb dX12_tells_217 hl (by decide) rfl (fun ls hl => ?_)
                  refine lv_aload_n hx hb dX12_tells_219 rfl (lv_at hl 2 rfl) ?_
                  refine lv_iconst (v := 0) hx hb dX12_tells_220 (by decide) ?_
                  refine va_put (D := D) (ci := 12) (v := .int 0) (ty := .boolean) (C := RX12) (T := TX12) (N := 48) hx hb hg inC12 tyX12 tyX12_ok nmX12 hown hK hP hD hS 0 rfl rfl 24 (by decide) (hg _ wt5_184) (fun _ h9 => h9) rfl (by decide +kernel) rfl rfl (Nat.le_of_ble_eq_true rfl) dX12_tells_221 (fun H locs hP hD hS => ?_)
                  have hP : va_P D vwCl (mW K o r (upd F793 24 0) a_778 g) H := hP
                  have hD : va_D A (mW K o r (upd F793 24 0) a_778 g) := hD
                  refine k_gen (P := fun z => va_P D vwCl (mW K o r z a_778 g) H ∧ va_D A (mW K o r z a_778 g) ∧ (mI z a_778) ∧ (mE (XR []) f a z a_778) ∧ (mZ [22, 23, 24, 25] [26] f a z a_778) ∧ (eS z a_778 t false)) (upd F793 24 0) ⟨hP, hD, (mI_f hI (fI_st hI.1 24 kc_0 (by decide) (by decide))), (mE_f hE (by decide)), (mZ_f hZ rfl), (eS_f hk0 (by decide) (by decide))⟩ (fun f_1171 ef_1171 hq => ?_)
                  obtain ⟨hP, hD, hI, hE, hZ, hk0⟩ := hq
                  refine lv_aload_n hx hb dX12_tells_224 rfl (lv_at hl 2 rfl) ?_
                  refine lv_dup hx hb dX12_tells_225 rfl ?_
                  refine va_get (D := D) (ci := 12) (v := .int (f_1171 22)) (C := RX12) (T := TX12) (N := 48) hx hb hg inC12 hown hK hP 0 rfl rfl 22 (by decide) (hg _ wt5_182) (fun _ h9 => h9) rfl dX12_tells_226 ?_
                  refine k_top (z := gv797) ((show f_1171 22 = F793 22 from kn7_u1 ef_1171 rfl).trans egv797.symm) ?_
                  refine lv_iconst (v := 1) hx hb dX12_tells_229 (by decide) ?_
                  refine lv_iadd hx hb dX12_tells_230 ?_
                  refine lv_topi (fun t1172 et1172 => ?_)
                  have b1173 : kb 1 t1172 2800 := kb_eq et1172 (kb_add b1163 kc_1 (by decide) (by decide))
                  have qt1172 : t1172.toInt = gv797.toInt + 1 := by rw [et1172]; exact kt_addc b1163 kc_1 (by decide) (by decide)
                  have hg1174 : t1172.toInt = 400 * (t : Int) + ((i + 1 : Nat) : Int) := by first | exact kn7_go qt1172 hg798 | (rw [qt1172, hg798]; omega)
                  refine va_put (D := D) (ci := 12) (v := .int t1172) (ty := .int) (C := RX12) (T := TX12) (N := 48) hx hb hg inC12 tyX12 tyX12_ok nmX12 hown hK hP hD hS 0 rfl rfl 22 (by decide) (hg _ wt5_182) (fun _ h9 => h9) rfl (by decide +kernel) rfl rfl (Nat.le_of_ble_eq_true rfl) dX12_tells_231 (fun H locs hP hD hS => ?_)
                  have hP : va_P D vwCl (mW K o r (upd f_1171 22 t1172) a_778 g) H := hP
                  have hD : va_D A (mW K o r (upd f_1171 22 t1172) a_778 g) := hD
                  refine k_gen (P := fun z => va_P D vwCl (mW K o r z a_778 g) H ∧ va_D A (mW K o r z a_778 g) ∧ (mI z a_778) ∧ (mE (XR []) f a z a_778) ∧ (mZ [22, 23, 24, 25] [26] f a z a_778) ∧ (eS z a_778 t false)) (upd f_1171 22 t1172) ⟨hP, hD, (mI_f hI (fI_st hI.1 22 (kb_any _) (by decide) (by decide))), (mE_f hE (by decide)), (mZ_f hZ rfl), (eS_f hk0 (by decide) (by decide))⟩ (fun f_1175 ef_1175 hq => ?_)
                  obtain ⟨hP, hD, hI, hE, hZ, hk0⟩ := hq
                  refine lv_iload hx hb dX12_tells_234 (lv_at hl 0 rfl) ?_
                  refine lv_iconst (v := 4) hx hb dX12_tells_236 (by decide) ?_
                  refine lv_icmp_ne (tgt := 244) hx hb dX12_tells_237 (by decide) (fun c1176 => ?_) (fun c1176 => ?_)
                  · refine lv_aload_n hx hb dX12_tells_244 rfl (lv_at hl 2 rfl) ?_
                    refine lv_iconst (v := 1) hx hb dX12_tells_245 (by decide) ?_
                    refine kL.callV (As := [.int 1]) (rest := []) ⟨hx, hb, hml, hown, hg⟩ ((n_allSum 8) l o r f_1175 a_778 g hI 1 (kb_w kc_1 (by decide) (by decide)) t (i + 1) (mm) false T (lwW (a 2) bd pt) ((DD (a 2 106).toInt.toNat).2.2.2.2.1 cc) hk0 (by rw [(show f_1175 22 = t1172 from kn7_u1 ef_1175 rfl)]; exact hg1174) hp2 (hp3 f_1175) hs) (cwV 1 hg (kgV wt7_51 wt7_53 wp5_9 wt1_14 wt7_54) rfl rfl rfl (by decide +kernel) ⟨by decide, by decide⟩) hK hP hD hS hA mIs [] rfl (wr := []) rfl rfl rfl (fun i h => by cases h) 0 12 rfl rfl rfl hl.1 rfl (Nat.le_of_ble_eq_true rfl) dX12_tells_246 ⟨Nat.le_refl _, Nat.le_refl _⟩ (fun v1178 u1179 H locs hw1177 hP hD hS => ?_)
                    have hP : va_P D vwCl (mW K o r u1179 a_778 g) H := hP
                    have hD : va_D A (mW K o r u1179 a_778 g) := hD
                    have hI : mI u1179 a_778 := hw1177.2.1
                    have eE1180 : fE [22, 24] f_1175 u1179 := hw1177.2.2.1
                    have hE : mE (XR []) f a u1179 a_778 := mE_fE hE eE1180 (by decide)
                    have hZ : mZ [22, 23, 24, 25] [26] f a u1179 a_778 := mZ_fE hZ (fE_w (by decide) eE1180)
                    have hk0 : eS u1179 a_778 t false := eS_fE eE1180 hk0 (by decide) (by decide)
                    obtain ⟨gv1181, egv1181⟩ : ∃ z : Int32, z = u1179 22 := ⟨_, rfl⟩
                    have hg1182 : gv1181.toInt = 400 * (t : Int) + ((mm : Nat) : Int) := by rw [egv1181]; exact hw1177.2.2.2.1
                    have b1183 : kb 0 gv1181 2799 := kb_go hk0 (mC_lt hk0 (ne_0 (tq_y hp2 (x := 5) (y := 2003) (by decide +kernel) (by decide +kernel) h2) (by decide +kernel))) hg1182
                    obtain ⟨bq1184, ebq1184⟩ : ∃ z : Int32, z = u1179 24 := ⟨_, rfl⟩
                    have b1185 : kb 0 bq1184 1 := kb_eq ebq1184 (fI_at hI.1 24 (by decide) (by decide))
                    have hr1186 : mRs 1 0 (((DD (a 2 106).toInt.toNat).2.2.2.2.1 cc) (lwW (a 2) bd pt)) bq1184 v1178.toInt := by have w1 := hw1177.2.2.2.2; rw [((show f_1175 24 = f_1171 24 from kn7_u1 ef_1175 rfl).trans (show f_1171 24 = 0 from kn7_u1 ef_1171 rfl)), ← ebq1184] at w1; exact w1
                    refine lv_lstore (lv' := [(9, .long v1178), (8, .int 3), (6, .long y792), (0, .ref o), (1, .int hd), (2, .int bd), (3, .int pt), (4, .int hi), (5, .int wo)]) hx hb dX12_tells_249 hl (by decide) rfl (fun ls hl => ?_)
                    refine lv_aload_n hx hb dX12_tells_251 rfl (lv_at hl 3 rfl) ?_
                    refine va_get (D := D) (ci := 12) (v := .int (u1179 24)) (C := RX12) (T := TX12) (N := 48) hx hb hg inC12 hown hK hP 0 rfl rfl 24 (by decide) (hg _ wt5_184) (fun _ h9 => h9) rfl dX12_tells_252 ?_
                    refine k_top (z := bq1184) ebq1184.symm ?_
                    refine lv_istore (lv' := [(11, .int bq1184), (9, .long v1178), (8, .int 3), (6, .long y792), (0, .ref o), (1, .int hd), (2, .int bd), (3, .int pt), (4, .int hi), (5, .int wo)]) hx hb dX12_tells_255 hl (by decide) rfl (fun ls hl => ?_)
                    refine lv_aload_n hx hb dX12_tells_257 rfl (lv_at hl 4 rfl) ?_
                    refine lv_iconst (v := 0) hx hb dX12_tells_258 (by decide) ?_
                    refine va_put (D := D) (ci := 12) (v := .int 0) (ty := .boolean) (C := RX12) (T := TX12) (N := 48) hx hb hg inC12 tyX12 tyX12_ok nmX12 hown hK hP hD hS 0 rfl rfl 24 (by decide) (hg _ wt5_184) (fun _ h9 => h9) rfl (by decide +kernel) rfl rfl (Nat.le_of_ble_eq_true rfl) dX12_tells_259 (fun H locs hP hD hS => ?_)
                    have hP : va_P D vwCl (mW K o r (upd u1179 24 0) a_778 g) H := hP
                    have hD : va_D A (mW K o r (upd u1179 24 0) a_778 g) := hD
                    refine k_gen (P := fun z => va_P D vwCl (mW K o r z a_778 g) H ∧ va_D A (mW K o r z a_778 g) ∧ (mI z a_778) ∧ (mE (XR []) f a z a_778) ∧ (mZ [22, 23, 24, 25] [26] f a z a_778) ∧ (eS z a_778 t false)) (upd u1179 24 0) ⟨hP, hD, (mI_f hI (fI_st hI.1 24 kc_0 (by decide) (by decide))), (mE_f hE (by decide)), (mZ_f hZ rfl), (eS_f hk0 (by decide) (by decide))⟩ (fun f_1187 ef_1187 hq => ?_)
                    obtain ⟨hP, hD, hI, hE, hZ, hk0⟩ := hq
                    refine lv_aload_n hx hb dX12_tells_262 rfl (lv_at hl 4 rfl) ?_
                    refine lv_iconst (v := 5) hx hb dX12_tells_263 (by decide) ?_
                    refine kI.callV (As := [.int 5]) (rest := []) ⟨hx, hb, hml, hown, hg⟩ (m_passes0 l o r f_1187 a_778 g hI 5 (kb_w kc_5 (by decide) (by decide)) t (mm) false hk0 (by rw [((show f_1187 22 = u1179 22 from kn7_u1 ef_1187 rfl).trans egv1181.symm)]; exact hg1182)) (cwV 1 hg (kgV wt7_63 wt7_65 wp5_12 wt1_14 wt7_66) rfl rfl rfl (by decide +kernel) ⟨by decide, by decide⟩) hK hP hD hS hA mIs [] rfl (wr := []) rfl rfl rfl (fun i h => by cases h) 0 12 rfl rfl rfl hl.1 rfl (Nat.le_of_ble_eq_true rfl) dX12_tells_264 ⟨Nat.le_refl _, Nat.le_refl _⟩ (fun v1189 u1190 H locs hw1188 hP hD hS => ?_)
                    have hP : va_P D vwCl (mW K o r u1190 a_778 g) H := hP
                    have hD : va_D A (mW K o r u1190 a_778 g) := hD
                    have hI : mI u1190 a_778 := hw1188.2.1
                    have eE1191 : fE [22] f_1187 u1190 := hw1188.2.2.1
                    have hE : mE (XR []) f a u1190 a_778 := mE_fE hE eE1191 (by decide)
                    have hZ : mZ [22, 23, 24, 25] [26] f a u1190 a_778 := mZ_fE hZ (fE_w (by decide) eE1191)
                    have hk0 : eS u1190 a_778 t false := eS_fE eE1191 hk0 (by decide) (by decide)
                    have hz1192 := pass_y hw1188.2.2.2 (tq_y hp2 (x := 5) (y := 2003) (by decide +kernel) (by decide +kernel) h2)
                    refine k_top (z := 1) hz1192.1 ?_
                    obtain ⟨gv1193, egv1193⟩ : ∃ z : Int32, z = u1190 22 := ⟨_, rfl⟩
                    have hg1194 : gv1193.toInt = 400 * (t : Int) + ((mm + 1 : Nat) : Int) := by rw [egv1193]; exact hz1192.2
                    refine lv_if_eq (tgt := 278) hx hb dX12_tells_267 (by decide) (fun c1195 => ?_) (fun c1195 => ?_)
                    · exact kb_dj c1195 kc_1 kc_0 (by decide)
                    · refine lv_aload_n hx hb dX12_tells_270 rfl (lv_at hl 4 rfl) ?_
                      refine lv_iconst (v := 1) hx hb dX12_tells_271 (by decide) ?_
                      refine kI.callV (As := [.int 1]) (rest := []) ⟨hx, hb, hml, hown, hg⟩ ((n_allTest 8) l o r u1190 a_778 g hI 1 (kb_w kc_1 (by decide) (by decide)) t (mm + 1) (jj) false T (lwW (a 2) bd pt) ((DD (a 2 106).toInt.toNat).2.2.2.2.2.2 cc) hk0 (by rw [egv1193.symm]; exact hg1194) hp2 (hp3 u1190) h3) (cwV 1 hg (kgV wt7_80 wt7_82 wp5_15 wt1_14 wt7_83) rfl rfl rfl (by decide +kernel) ⟨by decide, by decide⟩) hK hP hD hS hA mIs [] rfl (wr := []) rfl rfl rfl (fun i h => by cases h) 0 12 rfl rfl rfl hl.1 rfl (Nat.le_of_ble_eq_true rfl) dX12_tells_272 ⟨Nat.le_refl _, Nat.le_refl _⟩ (fun v1197 u1198 H locs hw1196 hP hD hS => ?_)
                      have hP : va_P D vwCl (mW K o r u1198 a_778 g) H := hP
                      have hD : va_D A (mW K o r u1198 a_778 g) := hD
                      have hI : mI u1198 a_778 := hw1196.2.1
                      have eE1199 : fE [22, 24] u1190 u1198 := hw1196.2.2.1
                      have hE : mE (XR []) f a u1198 a_778 := mE_fE hE eE1199 (by decide)
                      have hZ : mZ [22, 23, 24, 25] [26] f a u1198 a_778 := mZ_fE hZ (fE_w (by decide) eE1199)
                      have hk0 : eS u1198 a_778 t false := eS_fE eE1199 hk0 (by decide) (by decide)
                      obtain ⟨gv1200, egv1200⟩ : ∃ z : Int32, z = u1198 22 := ⟨_, rfl⟩
                      have hg1201 : gv1200.toInt = 400 * (t : Int) + ((jj : Nat) : Int) := by rw [egv1200]; exact hw1196.2.2.2.1
                      have b1202 : kb 0 gv1200 2801 := kb_go1 hk0 (by have w1 := hk0.2.2.2.2; omega) hg1201
                      obtain ⟨bq1203, ebq1203⟩ : ∃ z : Int32, z = u1198 24 := ⟨_, rfl⟩
                      have b1204 : kb 0 bq1203 1 := kb_eq ebq1203 (fI_at hI.1 24 (by decide) (by decide))
                      have hr1205 : mTv 1 0 (((DD (a 2 106).toInt.toNat).2.2.2.2.2.2 cc) (lwW (a 2) bd pt)) bq1203 v1197 := by have w1 := hw1196.2.2.2.2; rw [((eE1191 24 (by decide)).trans (show f_1187 24 = 0 from kn7_u1 ef_1187 rfl)), ← ebq1203] at w1; exact w1
                      refine lv_if_eq (tgt := 282) hx hb dX12_tells_275 (by decide) (fun c1206 => ?_) (fun c1206 => ?_)
                      · have b1207 : kb 0 v1197 0 := kb_eq c1206 kc_0
                        refine lv_iconst (v := 0) hx hb dX12_tells_282 (by decide) ?_
                        refine lv_istore (lv' := [(12, .int 0), (11, .int bq1184), (9, .long v1178), (8, .int 3), (6, .long y792), (0, .ref o), (1, .int hd), (2, .int bd), (3, .int pt), (4, .int hi), (5, .int wo)]) hx hb dX12_tells_283 hl (by decide) rfl (fun ls hl => ?_)
                        refine lv_iload hx hb dX12_tells_285 (lv_at hl 3 rfl) ?_
                        refine lv_iload_n hx hb dX12_tells_287 rfl (lv_at hl 6 rfl) ?_
                        refine lv_icmp_ne (tgt := 338) hx hb dX12_tells_288 (by decide) (fun c1208 => ?_) (fun c1208 => ?_)
                        · refine lv_aload_n hx hb dX12_tells_338 rfl (lv_at hl 5 rfl) ?_
                          refine lv_dup hx hb dX12_tells_339 rfl ?_
                          refine va_get (D := D) (ci := 12) (v := .int (u1198 22)) (C := RX12) (T := TX12) (N := 48) hx hb hg inC12 hown hK hP 0 rfl rfl 22 (by decide) (hg _ wt5_182) (fun _ h9 => h9) rfl dX12_tells_340 ?_
                          refine k_top (z := gv1200) egv1200.symm ?_
                          refine lv_iconst (v := 1) hx hb dX12_tells_343 (by decide) ?_
                          refine lv_iadd hx hb dX12_tells_344 ?_
                          refine lv_topi (fun t1209 et1209 => ?_)
                          have b1210 : kb 1 t1209 2802 := kb_eq et1209 (kb_add b1202 kc_1 (by decide) (by decide))
                          have qt1209 : t1209.toInt = gv1200.toInt + 1 := by rw [et1209]; exact kt_addc b1202 kc_1 (by decide) (by decide)
                          have hg1211 : t1209.toInt = 400 * (t : Int) + ((jj + 1 : Nat) : Int) := by first | exact kn7_go qt1209 hg1201 | (rw [qt1209, hg1201]; omega)
                          refine va_put (D := D) (ci := 12) (v := .int t1209) (ty := .int) (C := RX12) (T := TX12) (N := 48) hx hb hg inC12 tyX12 tyX12_ok nmX12 hown hK hP hD hS 0 rfl rfl 22 (by decide) (hg _ wt5_182) (fun _ h9 => h9) rfl (by decide +kernel) rfl rfl (Nat.le_of_ble_eq_true rfl) dX12_tells_345 (fun H locs hP hD hS => ?_)
                          have hP : va_P D vwCl (mW K o r (upd u1198 22 t1209) a_778 g) H := hP
                          have hD : va_D A (mW K o r (upd u1198 22 t1209) a_778 g) := hD
                          refine k_gen (P := fun z => va_P D vwCl (mW K o r z a_778 g) H ∧ va_D A (mW K o r z a_778 g) ∧ (mI z a_778) ∧ (mE (XR []) f a z a_778) ∧ (mZ [22, 23, 24, 25] [26] f a z a_778) ∧ (eS z a_778 t false)) (upd u1198 22 t1209) ⟨hP, hD, (mI_f hI (fI_st hI.1 22 (kb_any _) (by decide) (by decide))), (mE_f hE (by decide)), (mZ_f hZ rfl), (eS_f hk0 (by decide) (by decide))⟩ (fun f_1212 ef_1212 hq => ?_)
                          obtain ⟨hP, hD, hI, hE, hZ, hk0⟩ := hq
                          refine lv_goto (tgt := 198) hx hb dX12_tells_348 (by decide) ?_
                          exact ihlp794 (jj + 1) (cc + 1) f_1212 _ _ _ y792 (by first | exact kn7_ml hmlp794 | (have w1 := hmlp794; omega)) hI hE hZ hk0 b796 (by rw [(show f_1212 22 = t1209 from kn7_u1 ef_1212 rfl)]; exact hg1211) (hnx.elim (fun q => Or.inl ⟨q.1, q.2.2.symm⟩) (fun q => Or.inr ⟨q.1, by first | exact kn7_sl q.2 | (have w1 := q.2; omega)⟩)) (by rw [lastOf_s, ct_n (fun q => c1208 (Int32.toInt_inj.mp (by first | exact (kHd_j (hhk.symm.trans q) bhd).trans (by decide +kernel) | (have w1 := kHd_j (hhk.symm.trans q) bhd; have w2 : (3 : Int32).toInt = 3 := (by decide +kernel); omega))))]; exact htd) (by first | exact Nat.succ_le_of_lt hcs.1 | (have w1 := hcs.1; omega)) hP hD hS (lv_sub hl [4, 5, 6, 7, 8, 9, 10] rfl)
                        · have b1213 : kb 3 hd 3 := kb_eq c1208.symm kc_3
                          refine lv_iload hx hb dX12_tells_291 (lv_at hl 0 rfl) ?_
                          refine lv_if_eq (tgt := 338) hx hb dX12_tells_293 (by decide) (fun c1214 => ?_) (fun c1214 => ?_)
                          · refine lv_aload_n hx hb dX12_tells_338 rfl (lv_at hl 5 rfl) ?_
                            refine lv_dup hx hb dX12_tells_339 rfl ?_
                            refine va_get (D := D) (ci := 12) (v := .int (u1198 22)) (C := RX12) (T := TX12) (N := 48) hx hb hg inC12 hown hK hP 0 rfl rfl 22 (by decide) (hg _ wt5_182) (fun _ h9 => h9) rfl dX12_tells_340 ?_
                            refine k_top (z := gv1200) egv1200.symm ?_
                            refine lv_iconst (v := 1) hx hb dX12_tells_343 (by decide) ?_
                            refine lv_iadd hx hb dX12_tells_344 ?_
                            refine lv_topi (fun t1215 et1215 => ?_)
                            have b1216 : kb 1 t1215 2802 := kb_eq et1215 (kb_add b1202 kc_1 (by decide) (by decide))
                            have qt1215 : t1215.toInt = gv1200.toInt + 1 := by rw [et1215]; exact kt_addc b1202 kc_1 (by decide) (by decide)
                            have hg1217 : t1215.toInt = 400 * (t : Int) + ((jj + 1 : Nat) : Int) := by first | exact kn7_go qt1215 hg1201 | (rw [qt1215, hg1201]; omega)
                            refine va_put (D := D) (ci := 12) (v := .int t1215) (ty := .int) (C := RX12) (T := TX12) (N := 48) hx hb hg inC12 tyX12 tyX12_ok nmX12 hown hK hP hD hS 0 rfl rfl 22 (by decide) (hg _ wt5_182) (fun _ h9 => h9) rfl (by decide +kernel) rfl rfl (Nat.le_of_ble_eq_true rfl) dX12_tells_345 (fun H locs hP hD hS => ?_)
                            have hP : va_P D vwCl (mW K o r (upd u1198 22 t1215) a_778 g) H := hP
                            have hD : va_D A (mW K o r (upd u1198 22 t1215) a_778 g) := hD
                            refine k_gen (P := fun z => va_P D vwCl (mW K o r z a_778 g) H ∧ va_D A (mW K o r z a_778 g) ∧ (mI z a_778) ∧ (mE (XR []) f a z a_778) ∧ (mZ [22, 23, 24, 25] [26] f a z a_778) ∧ (eS z a_778 t false)) (upd u1198 22 t1215) ⟨hP, hD, (mI_f hI (fI_st hI.1 22 (kb_any _) (by decide) (by decide))), (mE_f hE (by decide)), (mZ_f hZ rfl), (eS_f hk0 (by decide) (by decide))⟩ (fun f_1218 ef_1218 hq => ?_)
                            obtain ⟨hP, hD, hI, hE, hZ, hk0⟩ := hq
                            refine lv_goto (tgt := 198) hx hb dX12_tells_348 (by decide) ?_
                            exact ihlp794 (jj + 1) (cc + 1) f_1218 _ _ _ y792 (by first | exact kn7_ml hmlp794 | (have w1 := hmlp794; omega)) hI hE hZ hk0 b796 (by rw [(show f_1218 22 = t1215 from kn7_u1 ef_1218 rfl)]; exact hg1217) (hnx.elim (fun q => Or.inl ⟨q.1, q.2.2.symm⟩) (fun q => Or.inr ⟨q.1, by first | exact kn7_sl q.2 | (have w1 := q.2; omega)⟩)) (by rw [lastOf_s, ct_t (mt_0 hr1205 c1206)]; exact htd) (by first | exact Nat.succ_le_of_lt hcs.1 | (have w1 := hcs.1; omega)) hP hD hS (lv_sub hl [4, 5, 6, 7, 8, 9, 10] rfl)
                          · exact kb_nsame c1214 kc_0 kc_0
                      · have b1219 : kb 1 v1197 1 := kr_nel c1206 hw1196.1 kc_0 (by decide)
                        refine lv_iconst (v := 1) hx hb dX12_tells_278 (by decide) ?_
                        refine lv_goto (tgt := 283) hx hb dX12_tells_279 (by decide) ?_
                        refine lv_istore (lv' := [(12, .int 1), (11, .int bq1184), (9, .long v1178), (8, .int 3), (6, .long y792), (0, .ref o), (1, .int hd), (2, .int bd), (3, .int pt), (4, .int hi), (5, .int wo)]) hx hb dX12_tells_283 hl (by decide) rfl (fun ls hl => ?_)
                        refine lv_iload hx hb dX12_tells_285 (lv_at hl 3 rfl) ?_
                        refine lv_iload_n hx hb dX12_tells_287 rfl (lv_at hl 6 rfl) ?_
                        refine lv_icmp_ne (tgt := 338) hx hb dX12_tells_288 (by decide) (fun c1220 => ?_) (fun c1220 => ?_)
                        · refine lv_aload_n hx hb dX12_tells_338 rfl (lv_at hl 5 rfl) ?_
                          refine lv_dup hx hb dX12_tells_339 rfl ?_
                          refine va_get (D := D) (ci := 12) (v := .int (u1198 22)) (C := RX12) (T := TX12) (N := 48) hx hb hg inC12 hown hK hP 0 rfl rfl 22 (by decide) (hg _ wt5_182) (fun _ h9 => h9) rfl dX12_tells_340 ?_
                          refine k_top (z := gv1200) egv1200.symm ?_
                          refine lv_iconst (v := 1) hx hb dX12_tells_343 (by decide) ?_
                          refine lv_iadd hx hb dX12_tells_344 ?_
                          refine lv_topi (fun t1221 et1221 => ?_)
                          have b1222 : kb 1 t1221 2802 := kb_eq et1221 (kb_add b1202 kc_1 (by decide) (by decide))
                          have qt1221 : t1221.toInt = gv1200.toInt + 1 := by rw [et1221]; exact kt_addc b1202 kc_1 (by decide) (by decide)
                          have hg1223 : t1221.toInt = 400 * (t : Int) + ((jj + 1 : Nat) : Int) := by first | exact kn7_go qt1221 hg1201 | (rw [qt1221, hg1201]; omega)
                          refine va_put (D := D) (ci := 12) (v := .int t1221) (ty := .int) (C := RX12) (T := TX12) (N := 48) hx hb hg inC12 tyX12 tyX12_ok nmX12 hown hK hP hD hS 0 rfl rfl 22 (by decide) (hg _ wt5_182) (fun _ h9 => h9) rfl (by decide +kernel) rfl rfl (Nat.le_of_ble_eq_true rfl) dX12_tells_345 (fun H locs hP hD hS => ?_)
                          have hP : va_P D vwCl (mW K o r (upd u1198 22 t1221) a_778 g) H := hP
                          have hD : va_D A (mW K o r (upd u1198 22 t1221) a_778 g) := hD
                          refine k_gen (P := fun z => va_P D vwCl (mW K o r z a_778 g) H ∧ va_D A (mW K o r z a_778 g) ∧ (mI z a_778) ∧ (mE (XR []) f a z a_778) ∧ (mZ [22, 23, 24, 25] [26] f a z a_778) ∧ (eS z a_778 t false)) (upd u1198 22 t1221) ⟨hP, hD, (mI_f hI (fI_st hI.1 22 (kb_any _) (by decide) (by decide))), (mE_f hE (by decide)), (mZ_f hZ rfl), (eS_f hk0 (by decide) (by decide))⟩ (fun f_1224 ef_1224 hq => ?_)
                          obtain ⟨hP, hD, hI, hE, hZ, hk0⟩ := hq
                          refine lv_goto (tgt := 198) hx hb dX12_tells_348 (by decide) ?_
                          exact ihlp794 (jj + 1) (cc + 1) f_1224 _ _ _ y792 (by first | exact kn7_ml hmlp794 | (have w1 := hmlp794; omega)) hI hE hZ hk0 b796 (by rw [(show f_1224 22 = t1221 from kn7_u1 ef_1224 rfl)]; exact hg1223) (hnx.elim (fun q => Or.inl ⟨q.1, q.2.2.symm⟩) (fun q => Or.inr ⟨q.1, by first | exact kn7_sl q.2 | (have w1 := q.2; omega)⟩)) (by rw [lastOf_s, ct_n (fun q => c1220 (Int32.toInt_inj.mp (by first | exact (kHd_j (hhk.symm.trans q) bhd).trans (by decide +kernel) | (have w1 := kHd_j (hhk.symm.trans q) bhd; have w2 : (3 : Int32).toInt = 3 := (by decide +kernel); omega))))]; exact htd) (by first | exact Nat.succ_le_of_lt hcs.1 | (have w1 := hcs.1; omega)) hP hD hS (lv_sub hl [4, 5, 6, 7, 8, 9, 10] rfl)
                        · have b1225 : kb 3 hd 3 := kb_eq c1220.symm kc_3
                          refine lv_iload hx hb dX12_tells_291 (lv_at hl 0 rfl) ?_
                          refine lv_if_eq (tgt := 338) hx hb dX12_tells_293 (by decide) (fun c1226 => ?_) (fun c1226 => ?_)
                          · exact kb_dj c1226 kc_1 kc_0 (by decide)
                          · refine lv_aload_n hx hb dX12_tells_296 rfl (lv_at hl 5 rfl) ?_
                            refine va_get (D := D) (ci := 12) (v := .int (u1198 24)) (C := RX12) (T := TX12) (N := 48) hx hb hg inC12 hown hK hP 0 rfl rfl 24 (by decide) (hg _ wt5_184) (fun _ h9 => h9) rfl dX12_tells_297 ?_
                            refine k_top (z := bq1203) ebq1203.symm ?_
                            refine lv_if_ne (tgt := 338) hx hb dX12_tells_300 (by decide) (fun c1227 => ?_) (fun c1227 => ?_)
                            · have b1228 : kb 1 bq1203 1 := kr_nel c1227 b1204 kc_0 (by decide)
                              refine lv_aload_n hx hb dX12_tells_338 rfl (lv_at hl 5 rfl) ?_
                              refine lv_dup hx hb dX12_tells_339 rfl ?_
                              refine va_get (D := D) (ci := 12) (v := .int (u1198 22)) (C := RX12) (T := TX12) (N := 48) hx hb hg inC12 hown hK hP 0 rfl rfl 22 (by decide) (hg _ wt5_182) (fun _ h9 => h9) rfl dX12_tells_340 ?_
                              refine k_top (z := gv1200) egv1200.symm ?_
                              refine lv_iconst (v := 1) hx hb dX12_tells_343 (by decide) ?_
                              refine lv_iadd hx hb dX12_tells_344 ?_
                              refine lv_topi (fun t1229 et1229 => ?_)
                              have b1230 : kb 1 t1229 2802 := kb_eq et1229 (kb_add b1202 kc_1 (by decide) (by decide))
                              have qt1229 : t1229.toInt = gv1200.toInt + 1 := by rw [et1229]; exact kt_addc b1202 kc_1 (by decide) (by decide)
                              have hg1231 : t1229.toInt = 400 * (t : Int) + ((jj + 1 : Nat) : Int) := by first | exact kn7_go qt1229 hg1201 | (rw [qt1229, hg1201]; omega)
                              refine va_put (D := D) (ci := 12) (v := .int t1229) (ty := .int) (C := RX12) (T := TX12) (N := 48) hx hb hg inC12 tyX12 tyX12_ok nmX12 hown hK hP hD hS 0 rfl rfl 22 (by decide) (hg _ wt5_182) (fun _ h9 => h9) rfl (by decide +kernel) rfl rfl (Nat.le_of_ble_eq_true rfl) dX12_tells_345 (fun H locs hP hD hS => ?_)
                              have hP : va_P D vwCl (mW K o r (upd u1198 22 t1229) a_778 g) H := hP
                              have hD : va_D A (mW K o r (upd u1198 22 t1229) a_778 g) := hD
                              refine k_gen (P := fun z => va_P D vwCl (mW K o r z a_778 g) H ∧ va_D A (mW K o r z a_778 g) ∧ (mI z a_778) ∧ (mE (XR []) f a z a_778) ∧ (mZ [22, 23, 24, 25] [26] f a z a_778) ∧ (eS z a_778 t false)) (upd u1198 22 t1229) ⟨hP, hD, (mI_f hI (fI_st hI.1 22 (kb_any _) (by decide) (by decide))), (mE_f hE (by decide)), (mZ_f hZ rfl), (eS_f hk0 (by decide) (by decide))⟩ (fun f_1232 ef_1232 hq => ?_)
                              obtain ⟨hP, hD, hI, hE, hZ, hk0⟩ := hq
                              refine lv_goto (tgt := 198) hx hb dX12_tells_348 (by decide) ?_
                              exact ihlp794 (jj + 1) (cc + 1) f_1232 _ _ _ y792 (by first | exact kn7_ml hmlp794 | (have w1 := hmlp794; omega)) hI hE hZ hk0 b796 (by rw [(show f_1232 22 = t1229 from kn7_u1 ef_1232 rfl)]; exact hg1231) (hnx.elim (fun q => Or.inl ⟨q.1, q.2.2.symm⟩) (fun q => Or.inr ⟨q.1, by first | exact kn7_sl q.2 | (have w1 := q.2; omega)⟩)) (by rw [lastOf_s, ct_t (mt_n hr1205 c1227)]; exact htd) (by first | exact Nat.succ_le_of_lt hcs.1 | (have w1 := hcs.1; omega)) hP hD hS (lv_sub hl [4, 5, 6, 7, 8, 9, 10] rfl)
                            · have b1233 : kb 0 bq1203 0 := kb_eq c1227 kc_0
                              refine lv_iload hx hb dX12_tells_303 (lv_at hl 1 rfl) ?_
                              refine lv_if_ne (tgt := 338) hx hb dX12_tells_305 (by decide) (fun c1234 => ?_) (fun c1234 => ?_)
                              · have b1235 : kb 1 bq1184 1 := kr_nel c1234 b1185 kc_0 (by decide)
                                refine lv_aload_n hx hb dX12_tells_338 rfl (lv_at hl 5 rfl) ?_
                                refine lv_dup hx hb dX12_tells_339 rfl ?_
                                refine va_get (D := D) (ci := 12) (v := .int (u1198 22)) (C := RX12) (T := TX12) (N := 48) hx hb hg inC12 hown hK hP 0 rfl rfl 22 (by decide) (hg _ wt5_182) (fun _ h9 => h9) rfl dX12_tells_340 ?_
                                refine k_top (z := gv1200) egv1200.symm ?_
                                refine lv_iconst (v := 1) hx hb dX12_tells_343 (by decide) ?_
                                refine lv_iadd hx hb dX12_tells_344 ?_
                                refine lv_topi (fun t1236 et1236 => ?_)
                                have b1237 : kb 1 t1236 2802 := kb_eq et1236 (kb_add b1202 kc_1 (by decide) (by decide))
                                have qt1236 : t1236.toInt = gv1200.toInt + 1 := by rw [et1236]; exact kt_addc b1202 kc_1 (by decide) (by decide)
                                have hg1238 : t1236.toInt = 400 * (t : Int) + ((jj + 1 : Nat) : Int) := by first | exact kn7_go qt1236 hg1201 | (rw [qt1236, hg1201]; omega)
                                refine va_put (D := D) (ci := 12) (v := .int t1236) (ty := .int) (C := RX12) (T := TX12) (N := 48) hx hb hg inC12 tyX12 tyX12_ok nmX12 hown hK hP hD hS 0 rfl rfl 22 (by decide) (hg _ wt5_182) (fun _ h9 => h9) rfl (by decide +kernel) rfl rfl (Nat.le_of_ble_eq_true rfl) dX12_tells_345 (fun H locs hP hD hS => ?_)
                                have hP : va_P D vwCl (mW K o r (upd u1198 22 t1236) a_778 g) H := hP
                                have hD : va_D A (mW K o r (upd u1198 22 t1236) a_778 g) := hD
                                refine k_gen (P := fun z => va_P D vwCl (mW K o r z a_778 g) H ∧ va_D A (mW K o r z a_778 g) ∧ (mI z a_778) ∧ (mE (XR []) f a z a_778) ∧ (mZ [22, 23, 24, 25] [26] f a z a_778) ∧ (eS z a_778 t false)) (upd u1198 22 t1236) ⟨hP, hD, (mI_f hI (fI_st hI.1 22 (kb_any _) (by decide) (by decide))), (mE_f hE (by decide)), (mZ_f hZ rfl), (eS_f hk0 (by decide) (by decide))⟩ (fun f_1239 ef_1239 hq => ?_)
                                obtain ⟨hP, hD, hI, hE, hZ, hk0⟩ := hq
                                refine lv_goto (tgt := 198) hx hb dX12_tells_348 (by decide) ?_
                                exact ihlp794 (jj + 1) (cc + 1) f_1239 _ _ _ y792 (by first | exact kn7_ml hmlp794 | (have w1 := hmlp794; omega)) hI hE hZ hk0 b796 (by rw [(show f_1239 22 = t1236 from kn7_u1 ef_1239 rfl)]; exact hg1238) (hnx.elim (fun q => Or.inl ⟨q.1, q.2.2.symm⟩) (fun q => Or.inr ⟨q.1, by first | exact kn7_sl q.2 | (have w1 := q.2; omega)⟩)) (by rw [lastOf_s, ct_b (mr_n hr1186 c1234)]; exact htd) (by first | exact Nat.succ_le_of_lt hcs.1 | (have w1 := hcs.1; omega)) hP hD hS (lv_sub hl [4, 5, 6, 7, 8, 9, 10] rfl)
                              · have b1240 : kb 0 bq1184 0 := kb_eq c1234 kc_0
                                refine lv_lload hx hb dX12_tells_308 (lv_at hl 2 rfl) ?_
                                refine lv_lconst (v := 0) hx hb dX12_tells_310 (by decide) ?_
                                refine W.lcmp hx hb dX12_tells_311 ?_
                                refine lv_topi (fun t1241 et1241 => ?_)
                                refine lv_if_ge (tgt := 319) hx hb dX12_tells_312 (by decide) (fun c1242 => ?_) (fun c1242 => ?_)
                                · have h1243 := klc_ge (et1241 ▸ c1242)
                                  have b1244 : kbl 0 v1178 9223372036854775807 := klr_le2 h1243 kcl_0 (kbl_any v1178)
                                  refine lv_lload hx hb dX12_tells_319 (lv_at hl 2 rfl) ?_
                                  refine lv_iload hx hb dX12_tells_321 (lv_at hl 9 rfl) ?_
                                  refine lv_i2l hx hb dX12_tells_323 rfl ?_
                                  refine lv_topl (fun t1245 et1245 => ?_)
                                  have b1246 : kbl 0 t1245 20 := kbl_eq et1245 (kbl_i2l bhi)
                                  refine W.lcmp hx hb dX12_tells_324 ?_
                                  refine lv_topi (fun t1247 et1247 => ?_)
                                  refine lv_if_le (tgt := 334) hx hb dX12_tells_325 (by decide) (fun c1248 => ?_) (fun c1248 => ?_)
                                  · have h1249 := klc_le (et1247 ▸ c1248)
                                    have b1250 : kbl 0 v1178 20 := klr_le1 h1249 b1244 b1246
                                    refine lv_lload hx hb dX12_tells_334 (lv_at hl 2 rfl) ?_
                                    refine lv_lstore (lv' := [(6, .long v1178), (12, .int 1), (11, .int bq1184), (9, .long v1178), (8, .int 3), (0, .ref o), (1, .int hd), (2, .int bd), (3, .int pt), (4, .int hi), (5, .int wo)]) hx hb dX12_tells_336 hl (by decide) rfl (fun ls hl => ?_)
                                    refine lv_aload_n hx hb dX12_tells_338 rfl (lv_at hl 5 rfl) ?_
                                    refine lv_dup hx hb dX12_tells_339 rfl ?_
                                    refine va_get (D := D) (ci := 12) (v := .int (u1198 22)) (C := RX12) (T := TX12) (N := 48) hx hb hg inC12 hown hK hP 0 rfl rfl 22 (by decide) (hg _ wt5_182) (fun _ h9 => h9) rfl dX12_tells_340 ?_
                                    refine k_top (z := gv1200) egv1200.symm ?_
                                    refine lv_iconst (v := 1) hx hb dX12_tells_343 (by decide) ?_
                                    refine lv_iadd hx hb dX12_tells_344 ?_
                                    refine lv_topi (fun t1251 et1251 => ?_)
                                    have b1252 : kb 1 t1251 2802 := kb_eq et1251 (kb_add b1202 kc_1 (by decide) (by decide))
                                    have qt1251 : t1251.toInt = gv1200.toInt + 1 := by rw [et1251]; exact kt_addc b1202 kc_1 (by decide) (by decide)
                                    have hg1253 : t1251.toInt = 400 * (t : Int) + ((jj + 1 : Nat) : Int) := by first | exact kn7_go qt1251 hg1201 | (rw [qt1251, hg1201]; omega)
                                    refine va_put (D := D) (ci := 12) (v := .int t1251) (ty := .int) (C := RX12) (T := TX12) (N := 48) hx hb hg inC12 tyX12 tyX12_ok nmX12 hown hK hP hD hS 0 rfl rfl 22 (by decide) (hg _ wt5_182) (fun _ h9 => h9) rfl (by decide +kernel) rfl rfl (Nat.le_of_ble_eq_true rfl) dX12_tells_345 (fun H locs hP hD hS => ?_)
                                    have hP : va_P D vwCl (mW K o r (upd u1198 22 t1251) a_778 g) H := hP
                                    have hD : va_D A (mW K o r (upd u1198 22 t1251) a_778 g) := hD
                                    refine k_gen (P := fun z => va_P D vwCl (mW K o r z a_778 g) H ∧ va_D A (mW K o r z a_778 g) ∧ (mI z a_778) ∧ (mE (XR []) f a z a_778) ∧ (mZ [22, 23, 24, 25] [26] f a z a_778) ∧ (eS z a_778 t false)) (upd u1198 22 t1251) ⟨hP, hD, (mI_f hI (fI_st hI.1 22 (kb_any _) (by decide) (by decide))), (mE_f hE (by decide)), (mZ_f hZ rfl), (eS_f hk0 (by decide) (by decide))⟩ (fun f_1254 ef_1254 hq => ?_)
                                    obtain ⟨hP, hD, hI, hE, hZ, hk0⟩ := hq
                                    refine lv_goto (tgt := 198) hx hb dX12_tells_348 (by decide) ?_
                                    exact ihlp794 (jj + 1) (cc + 1) f_1254 _ _ _ v1178 (by first | exact kn7_ml hmlp794 | (have w1 := hmlp794; omega)) hI hE hZ hk0 b1250 (by rw [(show f_1254 22 = t1251 from kn7_u1 ef_1254 rfl)]; exact hg1253) (hnx.elim (fun q => Or.inl ⟨q.1, q.2.2.symm⟩) (fun q => Or.inr ⟨q.1, by first | exact kn7_sl q.2 | (have w1 := q.2; omega)⟩)) (by rw [lastOf_s, ct_y (hhk.trans (by rw [← c1220]; decide +kernel)) (by have w1 := mt_1 hr1205 c1227; rw [kb_11 b1219] at w1; exact w1) (mr_s hr1186 c1234)]; show (v1178 : Int64).toInt = max 0 (min hi.toInt (v1178.toInt)); have w0 := bhi.1; have k0 : (0 : Int64).toInt = 0 := (by decide +kernel); have k1 : (1 : Int64).toInt = 1 := (by decide +kernel); have k9t1245 : t1245.toInt = hi.toInt := (congrArg Int64.toInt et1245).trans (kt_i2l _); omega) (by first | exact Nat.succ_le_of_lt hcs.1 | (have w1 := hcs.1; omega)) hP hD hS (lv_sub hl [0, 5, 6, 7, 8, 9, 10] rfl)
                                  · have h1255 := klc_nle (et1247 ▸ c1248)
                                    have b1256 : kbl 1 v1178 9223372036854775807 := klr_lt2 h1255 b1246 b1244 (by decide)
                                    refine lv_iload hx hb dX12_tells_328 (lv_at hl 9 rfl) ?_
                                    refine lv_i2l hx hb dX12_tells_330 rfl ?_
                                    refine lv_topl (fun t1257 et1257 => ?_)
                                    have b1258 : kbl 0 t1257 20 := kbl_eq et1257 (kbl_i2l bhi)
                                    refine lv_goto (tgt := 336) hx hb dX12_tells_331 (by decide) ?_
                                    refine lv_lstore (lv' := [(6, .long t1257), (12, .int 1), (11, .int bq1184), (9, .long v1178), (8, .int 3), (0, .ref o), (1, .int hd), (2, .int bd), (3, .int pt), (4, .int hi), (5, .int wo)]) hx hb dX12_tells_336 hl (by decide) rfl (fun ls hl => ?_)
                                    refine lv_aload_n hx hb dX12_tells_338 rfl (lv_at hl 5 rfl) ?_
                                    refine lv_dup hx hb dX12_tells_339 rfl ?_
                                    refine va_get (D := D) (ci := 12) (v := .int (u1198 22)) (C := RX12) (T := TX12) (N := 48) hx hb hg inC12 hown hK hP 0 rfl rfl 22 (by decide) (hg _ wt5_182) (fun _ h9 => h9) rfl dX12_tells_340 ?_
                                    refine k_top (z := gv1200) egv1200.symm ?_
                                    refine lv_iconst (v := 1) hx hb dX12_tells_343 (by decide) ?_
                                    refine lv_iadd hx hb dX12_tells_344 ?_
                                    refine lv_topi (fun t1259 et1259 => ?_)
                                    have b1260 : kb 1 t1259 2802 := kb_eq et1259 (kb_add b1202 kc_1 (by decide) (by decide))
                                    have qt1259 : t1259.toInt = gv1200.toInt + 1 := by rw [et1259]; exact kt_addc b1202 kc_1 (by decide) (by decide)
                                    have hg1261 : t1259.toInt = 400 * (t : Int) + ((jj + 1 : Nat) : Int) := by first | exact kn7_go qt1259 hg1201 | (rw [qt1259, hg1201]; omega)
                                    refine va_put (D := D) (ci := 12) (v := .int t1259) (ty := .int) (C := RX12) (T := TX12) (N := 48) hx hb hg inC12 tyX12 tyX12_ok nmX12 hown hK hP hD hS 0 rfl rfl 22 (by decide) (hg _ wt5_182) (fun _ h9 => h9) rfl (by decide +kernel) rfl rfl (Nat.le_of_ble_eq_true rfl) dX12_tells_345 (fun H locs hP hD hS => ?_)
                                    have hP : va_P D vwCl (mW K o r (upd u1198 22 t1259) a_778 g) H := hP
                                    have hD : va_D A (mW K o r (upd u1198 22 t1259) a_778 g) := hD
                                    refine k_gen (P := fun z => va_P D vwCl (mW K o r z a_778 g) H ∧ va_D A (mW K o r z a_778 g) ∧ (mI z a_778) ∧ (mE (XR []) f a z a_778) ∧ (mZ [22, 23, 24, 25] [26] f a z a_778) ∧ (eS z a_778 t false)) (upd u1198 22 t1259) ⟨hP, hD, (mI_f hI (fI_st hI.1 22 (kb_any _) (by decide) (by decide))), (mE_f hE (by decide)), (mZ_f hZ rfl), (eS_f hk0 (by decide) (by decide))⟩ (fun f_1262 ef_1262 hq => ?_)
                                    obtain ⟨hP, hD, hI, hE, hZ, hk0⟩ := hq
                                    refine lv_goto (tgt := 198) hx hb dX12_tells_348 (by decide) ?_
                                    exact ihlp794 (jj + 1) (cc + 1) f_1262 _ _ _ t1257 (by first | exact kn7_ml hmlp794 | (have w1 := hmlp794; omega)) hI hE hZ hk0 b1258 (by rw [(show f_1262 22 = t1259 from kn7_u1 ef_1262 rfl)]; exact hg1261) (hnx.elim (fun q => Or.inl ⟨q.1, q.2.2.symm⟩) (fun q => Or.inr ⟨q.1, by first | exact kn7_sl q.2 | (have w1 := q.2; omega)⟩)) (by rw [lastOf_s, ct_y (hhk.trans (by rw [← c1220]; decide +kernel)) (by have w1 := mt_1 hr1205 c1227; rw [kb_11 b1219] at w1; exact w1) (mr_s hr1186 c1234)]; show (t1257 : Int64).toInt = max 0 (min hi.toInt (v1178.toInt)); have w0 := bhi.1; have k0 : (0 : Int64).toInt = 0 := (by decide +kernel); have k1 : (1 : Int64).toInt = 1 := (by decide +kernel); have k9 : t1257.toInt = hi.toInt := (congrArg Int64.toInt et1257).trans (kt_i2l _); have k9t1245 : t1245.toInt = hi.toInt := (congrArg Int64.toInt et1245).trans (kt_i2l _); have k9t1257 : t1257.toInt = hi.toInt := (congrArg Int64.toInt et1257).trans (kt_i2l _); omega) (by first | exact Nat.succ_le_of_lt hcs.1 | (have w1 := hcs.1; omega)) hP hD hS (lv_sub hl [0, 5, 6, 7, 8, 9, 10] rfl)
                                · have h1263 := klc_nge (et1241 ▸ c1242)
                                  have b1264 : kbl (-9223372036854775808) v1178 (-1) := klr_lt1 h1263 (kbl_any v1178) kcl_0 (by decide)
                                  refine lv_lconst (v := 0) hx hb dX12_tells_315 (by decide) ?_
                                  refine lv_goto (tgt := 336) hx hb dX12_tells_316 (by decide) ?_
                                  refine lv_lstore (lv' := [(6, .long 0), (12, .int 1), (11, .int bq1184), (9, .long v1178), (8, .int 3), (0, .ref o), (1, .int hd), (2, .int bd), (3, .int pt), (4, .int hi), (5, .int wo)]) hx hb dX12_tells_336 hl (by decide) rfl (fun ls hl => ?_)
                                  refine lv_aload_n hx hb dX12_tells_338 rfl (lv_at hl 5 rfl) ?_
                                  refine lv_dup hx hb dX12_tells_339 rfl ?_
                                  refine va_get (D := D) (ci := 12) (v := .int (u1198 22)) (C := RX12) (T := TX12) (N := 48) hx hb hg inC12 hown hK hP 0 rfl rfl 22 (by decide) (hg _ wt5_182) (fun _ h9 => h9) rfl dX12_tells_340 ?_
                                  refine k_top (z := gv1200) egv1200.symm ?_
                                  refine lv_iconst (v := 1) hx hb dX12_tells_343 (by decide) ?_
                                  refine lv_iadd hx hb dX12_tells_344 ?_
                                  refine lv_topi (fun t1265 et1265 => ?_)
                                  have b1266 : kb 1 t1265 2802 := kb_eq et1265 (kb_add b1202 kc_1 (by decide) (by decide))
                                  have qt1265 : t1265.toInt = gv1200.toInt + 1 := by rw [et1265]; exact kt_addc b1202 kc_1 (by decide) (by decide)
                                  have hg1267 : t1265.toInt = 400 * (t : Int) + ((jj + 1 : Nat) : Int) := by first | exact kn7_go qt1265 hg1201 | (rw [qt1265, hg1201]; omega)
                                  refine va_put (D := D) (ci := 12) (v := .int t1265) (ty := .int) (C := RX12) (T := TX12) (N := 48) hx hb hg inC12 tyX12 tyX12_ok nmX12 hown hK hP hD hS 0 rfl rfl 22 (by decide) (hg _ wt5_182) (fun _ h9 => h9) rfl (by decide +kernel) rfl rfl (Nat.le_of_ble_eq_true rfl) dX12_tells_345 (fun H locs hP hD hS => ?_)
                                  have hP : va_P D vwCl (mW K o r (upd u1198 22 t1265) a_778 g) H := hP
                                  have hD : va_D A (mW K o r (upd u1198 22 t1265) a_778 g) := hD
                                  refine k_gen (P := fun z => va_P D vwCl (mW K o r z a_778 g) H ∧ va_D A (mW K o r z a_778 g) ∧ (mI z a_778) ∧ (mE (XR []) f a z a_778) ∧ (mZ [22, 23, 24, 25] [26] f a z a_778) ∧ (eS z a_778 t false)) (upd u1198 22 t1265) ⟨hP, hD, (mI_f hI (fI_st hI.1 22 (kb_any _) (by decide) (by decide))), (mE_f hE (by decide)), (mZ_f hZ rfl), (eS_f hk0 (by decide) (by decide))⟩ (fun f_1268 ef_1268 hq => ?_)
                                  obtain ⟨hP, hD, hI, hE, hZ, hk0⟩ := hq
                                  refine lv_goto (tgt := 198) hx hb dX12_tells_348 (by decide) ?_
                                  exact ihlp794 (jj + 1) (cc + 1) f_1268 _ _ _ 0 (by first | exact kn7_ml hmlp794 | (have w1 := hmlp794; omega)) hI hE hZ hk0 (kbl_w kcl_0 (by decide) (by decide)) (by rw [(show f_1268 22 = t1265 from kn7_u1 ef_1268 rfl)]; exact hg1267) (hnx.elim (fun q => Or.inl ⟨q.1, q.2.2.symm⟩) (fun q => Or.inr ⟨q.1, by first | exact kn7_sl q.2 | (have w1 := q.2; omega)⟩)) (by rw [lastOf_s, ct_y (hhk.trans (by rw [← c1220]; decide +kernel)) (by have w1 := mt_1 hr1205 c1227; rw [kb_11 b1219] at w1; exact w1) (mr_s hr1186 c1234)]; show (0 : Int64).toInt = max 0 (min hi.toInt (v1178.toInt)); have w0 := bhi.1; have k0 : (0 : Int64).toInt = 0 := (by decide +kernel); have k1 : (1 : Int64).toInt = 1 := (by decide +kernel); omega) (by first | exact Nat.succ_le_of_lt hcs.1 | (have w1 := hcs.1; omega)) hP hD hS (lv_sub hl [0, 5, 6, 7, 8, 9, 10] rfl)
                  · exact kb_dj c1176 kc_3 kc_4 (by decide)
              · subst hj
                refine lv_aload_n hx hb dX12_tells_198 rfl (lv_at hl 1 rfl) ?_
                refine va_get (D := D) (ci := 12) (v := .int (F793 22)) (C := RX12) (T := TX12) (N := 48) hx hb hg inC12 hown hK hP 0 rfl rfl 22 (by decide) (hg _ wt5_182) (fun _ h9 => h9) rfl dX12_tells_199 ?_
                refine k_top (z := gv797) egv797.symm ?_
                refine lv_aload_n hx hb dX12_tells_202 rfl (lv_at hl 1 rfl) ?_
                refine va_get (D := D) (ci := 12) (v := .int (F793 23)) (C := RX12) (T := TX12) (N := 48) hx hb hg inC12 hown hK hP 0 rfl rfl 23 (by decide) (hg _ wt5_183) (fun _ h9 => h9) rfl dX12_tells_203 ?_
                refine lv_topi (fun t1269 et1269 => ?_)
                refine lv_icmp_ge (tgt := 351) hx hb dX12_tells_206 (by decide) (fun c1270 => ?_) (fun c1270 => ?_)
                · exact absurd (kc_le c1270) (by have w1 := congrArg Int32.toInt et1269.symm; have w2 := hk0.2.1; have w3 := hg798; have w4 := mC_lS hk0 (ne_0 (tq_y hp2 (x := 3) (y := 2006) (by decide +kernel) (by decide +kernel) h1) (by decide +kernel)); omega)
                · have h1271 := (kc_nle c1270)
                  have b1272 : kb 1 t1269 2147483647 := kr_lt2 h1271 b1163 (kb_any t1269) (by decide)
                  refine lv_aload_n hx hb dX12_tells_209 rfl (lv_at hl 1 rfl) ?_
                  refine lv_aload_n hx hb dX12_tells_210 rfl (lv_at hl 1 rfl) ?_
                  refine va_get (D := D) (ci := 12) (v := .int (F793 22)) (C := RX12) (T := TX12) (N := 48) hx hb hg inC12 hown hK hP 0 rfl rfl 22 (by decide) (hg _ wt5_182) (fun _ h9 => h9) rfl dX12_tells_211 ?_
                  refine k_top (z := gv797) egv797.symm ?_
                  refine kI.callV (As := [.int gv797]) (rest := []) ⟨hx, hb, hml, hown, hg⟩ (m_codeAt l o r F793 a_778 g hI gv797  t (i) false hk0 hg798) (cwV 1 hg (kgV wt7_47 wt7_49 wp5_8 wt1_14 wt7_50) rfl rfl rfl (by decide +kernel) ⟨by decide, by decide⟩) hK hP hD hS hA mIs [] rfl (wr := []) rfl rfl rfl (fun i h => by cases h) 0 12 rfl rfl rfl hl.1 rfl (Nat.le_of_ble_eq_true rfl) dX12_tells_214 ⟨Nat.le_refl _, Nat.le_refl _⟩ (fun v1274 u1275 H locs hw1273 hP hD hS => ?_)
                  have hP : va_P D vwCl (mW K o r F793 a_778 g) H := hP
                  have hD : va_D A (mW K o r F793 a_778 g) := hD
                  refine k_top (z := 3) (hw1273.2.trans (tq_y hp2 (x := 3) (y := 2006) (by decide +kernel) (by decide +kernel) h1)) ?_
                  refine lv_istore (lv' := [(8, .int 3), (6, .long y792), (0, .ref o), (1, .int hd), (2, .int bd), (3, .int pt), (4, .int hi), (5, .int wo)]) hx hb dX12_tells_217 hl (by decide) rfl (fun ls hl => ?_)
                  refine lv_aload_n hx hb dX12_tells_219 rfl (lv_at hl 2 rfl) ?_
                  refine lv_iconst (v := 0) hx hb dX12_tells_220 (by decide) ?_
                  refine va_put (D := D) (ci := 12) (v := .int 0) (ty := .boolean) (C := RX12) (T := TX12) (N := 48) hx hb hg inC12 tyX12 tyX12_ok nmX12 hown hK hP hD hS 0 rfl rfl 24 (by decide) (hg _ wt5_184) (fun _ h9 => h9) rfl (by decide +kernel) rfl rfl (Nat.le_of_ble_eq_true rfl) dX12_tells_221 (fun H locs hP hD hS => ?_)
                  have hP : va_P D vwCl (mW K o r (upd F793 24 0) a_778 g) H := hP
                  have hD : va_D A (mW K o r (upd F793 24 0) a_778 g) := hD
                  refine k_gen (P := fun z => va_P D vwCl (mW K o r z a_778 g) H ∧ va_D A (mW K o r z a_778 g) ∧ (mI z a_778) ∧ (mE (XR []) f a z a_778) ∧ (mZ [22, 23, 24, 25] [26] f a z a_778) ∧ (eS z a_778 t false)) (upd F793 24 0) ⟨hP, hD, (mI_f hI (fI_st hI.1 24 kc_0 (by decide) (by decide))), (mE_f hE (by decide)), (mZ_f hZ rfl), (eS_f hk0 (by decide) (by decide))⟩ (fun f_1276 ef_1276 hq => ?_)
                  obtain ⟨hP, hD, hI, hE, hZ, hk0⟩ := hq
                  refine lv_aload_n hx hb dX12_tells_224 rfl (lv_at hl 2 rfl) ?_
                  refine lv_dup hx hb dX12_tells_225 rfl ?_
                  refine va_get (D := D) (ci := 12) (v := .int (f_1276 22)) (C := RX12) (T := TX12) (N := 48) hx hb hg inC12 hown hK hP 0 rfl rfl 22 (by decide) (hg _ wt5_182) (fun _ h9 => h9) rfl dX12_tells_226 ?_
                  refine k_top (z := gv797) ((show f_1276 22 = F793 22 from kn7_u1 ef_1276 rfl).trans egv797.symm) ?_
                  refine lv_iconst (v := 1) hx hb dX12_tells_229 (by decide) ?_
                  refine lv_iadd hx hb dX12_tells_230 ?_
                  refine lv_topi (fun t1277 et1277 => ?_)
                  have b1278 : kb 1 t1277 2800 := kb_eq et1277 (kb_add b1163 kc_1 (by decide) (by decide))
                  have qt1277 : t1277.toInt = gv797.toInt + 1 := by rw [et1277]; exact kt_addc b1163 kc_1 (by decide) (by decide)
                  have hg1279 : t1277.toInt = 400 * (t : Int) + ((i + 1 : Nat) : Int) := by first | exact kn7_go qt1277 hg798 | (rw [qt1277, hg798]; omega)
                  refine va_put (D := D) (ci := 12) (v := .int t1277) (ty := .int) (C := RX12) (T := TX12) (N := 48) hx hb hg inC12 tyX12 tyX12_ok nmX12 hown hK hP hD hS 0 rfl rfl 22 (by decide) (hg _ wt5_182) (fun _ h9 => h9) rfl (by decide +kernel) rfl rfl (Nat.le_of_ble_eq_true rfl) dX12_tells_231 (fun H locs hP hD hS => ?_)
                  have hP : va_P D vwCl (mW K o r (upd f_1276 22 t1277) a_778 g) H := hP
                  have hD : va_D A (mW K o r (upd f_1276 22 t1277) a_778 g) := hD
                  refine k_gen (P := fun z => va_P D vwCl (mW K o r z a_778 g) H ∧ va_D A (mW K o r z a_778 g) ∧ (mI z a_778) ∧ (mE (XR []) f a z a_778) ∧ (mZ [22, 23, 24, 25] [26] f a z a_778) ∧ (eS z a_778 t false)) (upd f_1276 22 t1277) ⟨hP, hD, (mI_f hI (fI_st hI.1 22 (kb_any _) (by decide) (by decide))), (mE_f hE (by decide)), (mZ_f hZ rfl), (eS_f hk0 (by decide) (by decide))⟩ (fun f_1280 ef_1280 hq => ?_)
                  obtain ⟨hP, hD, hI, hE, hZ, hk0⟩ := hq
                  refine lv_iload hx hb dX12_tells_234 (lv_at hl 0 rfl) ?_
                  refine lv_iconst (v := 4) hx hb dX12_tells_236 (by decide) ?_
                  refine lv_icmp_ne (tgt := 244) hx hb dX12_tells_237 (by decide) (fun c1281 => ?_) (fun c1281 => ?_)
                  · refine lv_aload_n hx hb dX12_tells_244 rfl (lv_at hl 2 rfl) ?_
                    refine lv_iconst (v := 1) hx hb dX12_tells_245 (by decide) ?_
                    refine kL.callV (As := [.int 1]) (rest := []) ⟨hx, hb, hml, hown, hg⟩ ((n_allSum 8) l o r f_1280 a_778 g hI 1 (kb_w kc_1 (by decide) (by decide)) t (i + 1) (jj) false T (lwW (a 2) bd pt) ((DD (a 2 106).toInt.toNat).2.2.2.2.1 cc) hk0 (by rw [(show f_1280 22 = t1277 from kn7_u1 ef_1280 rfl)]; exact hg1279) hp2 (hp3 f_1280) hs) (cwV 1 hg (kgV wt7_51 wt7_53 wp5_9 wt1_14 wt7_54) rfl rfl rfl (by decide +kernel) ⟨by decide, by decide⟩) hK hP hD hS hA mIs [] rfl (wr := []) rfl rfl rfl (fun i h => by cases h) 0 12 rfl rfl rfl hl.1 rfl (Nat.le_of_ble_eq_true rfl) dX12_tells_246 ⟨Nat.le_refl _, Nat.le_refl _⟩ (fun v1283 u1284 H locs hw1282 hP hD hS => ?_)
                    have hP : va_P D vwCl (mW K o r u1284 a_778 g) H := hP
                    have hD : va_D A (mW K o r u1284 a_778 g) := hD
                    have hI : mI u1284 a_778 := hw1282.2.1
                    have eE1285 : fE [22, 24] f_1280 u1284 := hw1282.2.2.1
                    have hE : mE (XR []) f a u1284 a_778 := mE_fE hE eE1285 (by decide)
                    have hZ : mZ [22, 23, 24, 25] [26] f a u1284 a_778 := mZ_fE hZ (fE_w (by decide) eE1285)
                    have hk0 : eS u1284 a_778 t false := eS_fE eE1285 hk0 (by decide) (by decide)
                    obtain ⟨gv1286, egv1286⟩ : ∃ z : Int32, z = u1284 22 := ⟨_, rfl⟩
                    have hg1287 : gv1286.toInt = 400 * (t : Int) + ((jj : Nat) : Int) := by rw [egv1286]; exact hw1282.2.2.2.1
                    have b1288 : kb 0 gv1286 2801 := kb_go1 hk0 (by have w1 := hk0.2.2.2.2; omega) hg1287
                    obtain ⟨bq1289, ebq1289⟩ : ∃ z : Int32, z = u1284 24 := ⟨_, rfl⟩
                    have b1290 : kb 0 bq1289 1 := kb_eq ebq1289 (fI_at hI.1 24 (by decide) (by decide))
                    have hr1291 : mRs 1 0 (((DD (a 2 106).toInt.toNat).2.2.2.2.1 cc) (lwW (a 2) bd pt)) bq1289 v1283.toInt := by have w1 := hw1282.2.2.2.2; rw [((show f_1280 24 = f_1276 24 from kn7_u1 ef_1280 rfl).trans (show f_1276 24 = 0 from kn7_u1 ef_1276 rfl)), ← ebq1289] at w1; exact w1
                    refine lv_lstore (lv' := [(9, .long v1283), (8, .int 3), (6, .long y792), (0, .ref o), (1, .int hd), (2, .int bd), (3, .int pt), (4, .int hi), (5, .int wo)]) hx hb dX12_tells_249 hl (by decide) rfl (fun ls hl => ?_)
                    refine lv_aload_n hx hb dX12_tells_251 rfl (lv_at hl 3 rfl) ?_
                    refine va_get (D := D) (ci := 12) (v := .int (u1284 24)) (C := RX12) (T := TX12) (N := 48) hx hb hg inC12 hown hK hP 0 rfl rfl 24 (by decide) (hg _ wt5_184) (fun _ h9 => h9) rfl dX12_tells_252 ?_
                    refine k_top (z := bq1289) ebq1289.symm ?_
                    refine lv_istore (lv' := [(11, .int bq1289), (9, .long v1283), (8, .int 3), (6, .long y792), (0, .ref o), (1, .int hd), (2, .int bd), (3, .int pt), (4, .int hi), (5, .int wo)]) hx hb dX12_tells_255 hl (by decide) rfl (fun ls hl => ?_)
                    refine lv_aload_n hx hb dX12_tells_257 rfl (lv_at hl 4 rfl) ?_
                    refine lv_iconst (v := 0) hx hb dX12_tells_258 (by decide) ?_
                    refine va_put (D := D) (ci := 12) (v := .int 0) (ty := .boolean) (C := RX12) (T := TX12) (N := 48) hx hb hg inC12 tyX12 tyX12_ok nmX12 hown hK hP hD hS 0 rfl rfl 24 (by decide) (hg _ wt5_184) (fun _ h9 => h9) rfl (by decide +kernel) rfl rfl (Nat.le_of_ble_eq_true rfl) dX12_tells_259 (fun H locs hP hD hS => ?_)
                    have hP : va_P D vwCl (mW K o r (upd u1284 24 0) a_778 g) H := hP
                    have hD : va_D A (mW K o r (upd u1284 24 0) a_778 g) := hD
                    refine k_gen (P := fun z => va_P D vwCl (mW K o r z a_778 g) H ∧ va_D A (mW K o r z a_778 g) ∧ (mI z a_778) ∧ (mE (XR []) f a z a_778) ∧ (mZ [22, 23, 24, 25] [26] f a z a_778) ∧ (eS z a_778 t false)) (upd u1284 24 0) ⟨hP, hD, (mI_f hI (fI_st hI.1 24 kc_0 (by decide) (by decide))), (mE_f hE (by decide)), (mZ_f hZ rfl), (eS_f hk0 (by decide) (by decide))⟩ (fun f_1292 ef_1292 hq => ?_)
                    obtain ⟨hP, hD, hI, hE, hZ, hk0⟩ := hq
                    refine lv_aload_n hx hb dX12_tells_262 rfl (lv_at hl 4 rfl) ?_
                    refine lv_iconst (v := 5) hx hb dX12_tells_263 (by decide) ?_
                    refine kI.callV (As := [.int 5]) (rest := []) ⟨hx, hb, hml, hown, hg⟩ (m_passes0 l o r f_1292 a_778 g hI 5 (kb_w kc_5 (by decide) (by decide)) t (jj) false hk0 (by rw [((show f_1292 22 = u1284 22 from kn7_u1 ef_1292 rfl).trans egv1286.symm)]; exact hg1287)) (cwV 1 hg (kgV wt7_63 wt7_65 wp5_12 wt1_14 wt7_66) rfl rfl rfl (by decide +kernel) ⟨by decide, by decide⟩) hK hP hD hS hA mIs [] rfl (wr := []) rfl rfl rfl (fun i h => by cases h) 0 12 rfl rfl rfl hl.1 rfl (Nat.le_of_ble_eq_true rfl) dX12_tells_264 ⟨Nat.le_refl _, Nat.le_refl _⟩ (fun v1294 u1295 H locs hw1293 hP hD hS => ?_)
                    have hP : va_P D vwCl (mW K o r u1295 a_778 g) H := hP
                    have hD : va_D A (mW K o r u1295 a_778 g) := hD
                    have hI : mI u1295 a_778 := hw1293.2.1
                    have eE1296 : fE [22] f_1292 u1295 := hw1293.2.2.1
                    have hE : mE (XR []) f a u1295 a_778 := mE_fE hE eE1296 (by decide)
                    have hZ : mZ [22, 23, 24, 25] [26] f a u1295 a_778 := mZ_fE hZ (fE_w (by decide) eE1296)
                    have hk0 : eS u1295 a_778 t false := eS_fE eE1296 hk0 (by decide) (by decide)
                    have hz1297 := pass_n hw1293.2.2.2 (tq_n hp2 (x := 5) (y := 2003) (by decide +kernel) (by decide +kernel) h2)
                    refine k_top (z := 0) hz1297.1 ?_
                    obtain ⟨gv1298, egv1298⟩ : ∃ z : Int32, z = u1295 22 := ⟨_, rfl⟩
                    have hg1299 : gv1298.toInt = 400 * (t : Int) + ((jj : Nat) : Int) := by rw [egv1298]; exact hz1297.2
                    have b1300 : kb 0 gv1298 2801 := kb_go1 hk0 (by have w1 := hk0.2.2.2.2; omega) hg1299
                    refine lv_if_eq (tgt := 278) hx hb dX12_tells_267 (by decide) (fun c1301 => ?_) (fun c1301 => ?_)
                    · refine lv_iconst (v := 1) hx hb dX12_tells_278 (by decide) ?_
                      refine lv_goto (tgt := 283) hx hb dX12_tells_279 (by decide) ?_
                      refine lv_istore (lv' := [(12, .int 1), (11, .int bq1289), (9, .long v1283), (8, .int 3), (6, .long y792), (0, .ref o), (1, .int hd), (2, .int bd), (3, .int pt), (4, .int hi), (5, .int wo)]) hx hb dX12_tells_283 hl (by decide) rfl (fun ls hl => ?_)
                      refine lv_iload hx hb dX12_tells_285 (lv_at hl 3 rfl) ?_
                      refine lv_iload_n hx hb dX12_tells_287 rfl (lv_at hl 6 rfl) ?_
                      refine lv_icmp_ne (tgt := 338) hx hb dX12_tells_288 (by decide) (fun c1302 => ?_) (fun c1302 => ?_)
                      · refine lv_aload_n hx hb dX12_tells_338 rfl (lv_at hl 5 rfl) ?_
                        refine lv_dup hx hb dX12_tells_339 rfl ?_
                        refine va_get (D := D) (ci := 12) (v := .int (u1295 22)) (C := RX12) (T := TX12) (N := 48) hx hb hg inC12 hown hK hP 0 rfl rfl 22 (by decide) (hg _ wt5_182) (fun _ h9 => h9) rfl dX12_tells_340 ?_
                        refine k_top (z := gv1298) egv1298.symm ?_
                        refine lv_iconst (v := 1) hx hb dX12_tells_343 (by decide) ?_
                        refine lv_iadd hx hb dX12_tells_344 ?_
                        refine lv_topi (fun t1303 et1303 => ?_)
                        have b1304 : kb 1 t1303 2802 := kb_eq et1303 (kb_add b1300 kc_1 (by decide) (by decide))
                        have qt1303 : t1303.toInt = gv1298.toInt + 1 := by rw [et1303]; exact kt_addc b1300 kc_1 (by decide) (by decide)
                        have hg1305 : t1303.toInt = 400 * (t : Int) + ((jj + 1 : Nat) : Int) := by first | exact kn7_go qt1303 hg1299 | (rw [qt1303, hg1299]; omega)
                        refine va_put (D := D) (ci := 12) (v := .int t1303) (ty := .int) (C := RX12) (T := TX12) (N := 48) hx hb hg inC12 tyX12 tyX12_ok nmX12 hown hK hP hD hS 0 rfl rfl 22 (by decide) (hg _ wt5_182) (fun _ h9 => h9) rfl (by decide +kernel) rfl rfl (Nat.le_of_ble_eq_true rfl) dX12_tells_345 (fun H locs hP hD hS => ?_)
                        have hP : va_P D vwCl (mW K o r (upd u1295 22 t1303) a_778 g) H := hP
                        have hD : va_D A (mW K o r (upd u1295 22 t1303) a_778 g) := hD
                        refine k_gen (P := fun z => va_P D vwCl (mW K o r z a_778 g) H ∧ va_D A (mW K o r z a_778 g) ∧ (mI z a_778) ∧ (mE (XR []) f a z a_778) ∧ (mZ [22, 23, 24, 25] [26] f a z a_778) ∧ (eS z a_778 t false)) (upd u1295 22 t1303) ⟨hP, hD, (mI_f hI (fI_st hI.1 22 (kb_any _) (by decide) (by decide))), (mE_f hE (by decide)), (mZ_f hZ rfl), (eS_f hk0 (by decide) (by decide))⟩ (fun f_1306 ef_1306 hq => ?_)
                        obtain ⟨hP, hD, hI, hE, hZ, hk0⟩ := hq
                        refine lv_goto (tgt := 198) hx hb dX12_tells_348 (by decide) ?_
                        exact ihlp794 (jj + 1) (cc + 1) f_1306 _ _ _ y792 (by first | exact kn7_ml hmlp794 | (have w1 := hmlp794; omega)) hI hE hZ hk0 b796 (by rw [(show f_1306 22 = t1303 from kn7_u1 ef_1306 rfl)]; exact hg1305) (hnx.elim (fun q => Or.inl ⟨q.1, q.2.2.symm⟩) (fun q => Or.inr ⟨q.1, by first | exact kn7_sl q.2 | (have w1 := q.2; omega)⟩)) (by rw [lastOf_s, ct_n (fun q => c1302 (Int32.toInt_inj.mp (by first | exact (kHd_j (hhk.symm.trans q) bhd).trans (by decide +kernel) | (have w1 := kHd_j (hhk.symm.trans q) bhd; have w2 : (3 : Int32).toInt = 3 := (by decide +kernel); omega))))]; exact htd) (by first | exact Nat.succ_le_of_lt hcs.1 | (have w1 := hcs.1; omega)) hP hD hS (lv_sub hl [4, 5, 6, 7, 8, 9, 10] rfl)
                      · have b1307 : kb 3 hd 3 := kb_eq c1302.symm kc_3
                        refine lv_iload hx hb dX12_tells_291 (lv_at hl 0 rfl) ?_
                        refine lv_if_eq (tgt := 338) hx hb dX12_tells_293 (by decide) (fun c1308 => ?_) (fun c1308 => ?_)
                        · exact kb_dj c1308 kc_1 kc_0 (by decide)
                        · refine lv_aload_n hx hb dX12_tells_296 rfl (lv_at hl 5 rfl) ?_
                          refine va_get (D := D) (ci := 12) (v := .int (u1295 24)) (C := RX12) (T := TX12) (N := 48) hx hb hg inC12 hown hK hP 0 rfl rfl 24 (by decide) (hg _ wt5_184) (fun _ h9 => h9) rfl dX12_tells_297 ?_
                          refine k_top (z := 0) ((eE1296 24 (by decide)).trans (show f_1292 24 = 0 from kn7_u1 ef_1292 rfl)) ?_
                          refine lv_if_ne (tgt := 338) hx hb dX12_tells_300 (by decide) (fun c1309 => ?_) (fun c1309 => ?_)
                          · exact kb_nsame c1309 kc_0 kc_0
                          · refine lv_iload hx hb dX12_tells_303 (lv_at hl 1 rfl) ?_
                            refine lv_if_ne (tgt := 338) hx hb dX12_tells_305 (by decide) (fun c1310 => ?_) (fun c1310 => ?_)
                            · have b1311 : kb 1 bq1289 1 := kr_nel c1310 b1290 kc_0 (by decide)
                              refine lv_aload_n hx hb dX12_tells_338 rfl (lv_at hl 5 rfl) ?_
                              refine lv_dup hx hb dX12_tells_339 rfl ?_
                              refine va_get (D := D) (ci := 12) (v := .int (u1295 22)) (C := RX12) (T := TX12) (N := 48) hx hb hg inC12 hown hK hP 0 rfl rfl 22 (by decide) (hg _ wt5_182) (fun _ h9 => h9) rfl dX12_tells_340 ?_
                              refine k_top (z := gv1298) egv1298.symm ?_
                              refine lv_iconst (v := 1) hx hb dX12_tells_343 (by decide) ?_
                              refine lv_iadd hx hb dX12_tells_344 ?_
                              refine lv_topi (fun t1312 et1312 => ?_)
                              have b1313 : kb 1 t1312 2802 := kb_eq et1312 (kb_add b1300 kc_1 (by decide) (by decide))
                              have qt1312 : t1312.toInt = gv1298.toInt + 1 := by rw [et1312]; exact kt_addc b1300 kc_1 (by decide) (by decide)
                              have hg1314 : t1312.toInt = 400 * (t : Int) + ((jj + 1 : Nat) : Int) := by first | exact kn7_go qt1312 hg1299 | (rw [qt1312, hg1299]; omega)
                              refine va_put (D := D) (ci := 12) (v := .int t1312) (ty := .int) (C := RX12) (T := TX12) (N := 48) hx hb hg inC12 tyX12 tyX12_ok nmX12 hown hK hP hD hS 0 rfl rfl 22 (by decide) (hg _ wt5_182) (fun _ h9 => h9) rfl (by decide +kernel) rfl rfl (Nat.le_of_ble_eq_true rfl) dX12_tells_345 (fun H locs hP hD hS => ?_)
                              have hP : va_P D vwCl (mW K o r (upd u1295 22 t1312) a_778 g) H := hP
                              have hD : va_D A (mW K o r (upd u1295 22 t1312) a_778 g) := hD
                              refine k_gen (P := fun z => va_P D vwCl (mW K o r z a_778 g) H ∧ va_D A (mW K o r z a_778 g) ∧ (mI z a_778) ∧ (mE (XR []) f a z a_778) ∧ (mZ [22, 23, 24, 25] [26] f a z a_778) ∧ (eS z a_778 t false)) (upd u1295 22 t1312) ⟨hP, hD, (mI_f hI (fI_st hI.1 22 (kb_any _) (by decide) (by decide))), (mE_f hE (by decide)), (mZ_f hZ rfl), (eS_f hk0 (by decide) (by decide))⟩ (fun f_1315 ef_1315 hq => ?_)
                              obtain ⟨hP, hD, hI, hE, hZ, hk0⟩ := hq
                              refine lv_goto (tgt := 198) hx hb dX12_tells_348 (by decide) ?_
                              exact ihlp794 (jj + 1) (cc + 1) f_1315 _ _ _ y792 (by first | exact kn7_ml hmlp794 | (have w1 := hmlp794; omega)) hI hE hZ hk0 b796 (by rw [(show f_1315 22 = t1312 from kn7_u1 ef_1315 rfl)]; exact hg1314) (hnx.elim (fun q => Or.inl ⟨q.1, q.2.2.symm⟩) (fun q => Or.inr ⟨q.1, by first | exact kn7_sl q.2 | (have w1 := q.2; omega)⟩)) (by rw [lastOf_s, ct_b (mr_n hr1291 c1310)]; exact htd) (by first | exact Nat.succ_le_of_lt hcs.1 | (have w1 := hcs.1; omega)) hP hD hS (lv_sub hl [4, 5, 6, 7, 8, 9, 10] rfl)
                            · have b1316 : kb 0 bq1289 0 := kb_eq c1310 kc_0
                              refine lv_lload hx hb dX12_tells_308 (lv_at hl 2 rfl) ?_
                              refine lv_lconst (v := 0) hx hb dX12_tells_310 (by decide) ?_
                              refine W.lcmp hx hb dX12_tells_311 ?_
                              refine lv_topi (fun t1317 et1317 => ?_)
                              refine lv_if_ge (tgt := 319) hx hb dX12_tells_312 (by decide) (fun c1318 => ?_) (fun c1318 => ?_)
                              · have h1319 := klc_ge (et1317 ▸ c1318)
                                have b1320 : kbl 0 v1283 9223372036854775807 := klr_le2 h1319 kcl_0 (kbl_any v1283)
                                refine lv_lload hx hb dX12_tells_319 (lv_at hl 2 rfl) ?_
                                refine lv_iload hx hb dX12_tells_321 (lv_at hl 9 rfl) ?_
                                refine lv_i2l hx hb dX12_tells_323 rfl ?_
                                refine lv_topl (fun t1321 et1321 => ?_)
                                have b1322 : kbl 0 t1321 20 := kbl_eq et1321 (kbl_i2l bhi)
                                refine W.lcmp hx hb dX12_tells_324 ?_
                                refine lv_topi (fun t1323 et1323 => ?_)
                                refine lv_if_le (tgt := 334) hx hb dX12_tells_325 (by decide) (fun c1324 => ?_) (fun c1324 => ?_)
                                · have h1325 := klc_le (et1323 ▸ c1324)
                                  have b1326 : kbl 0 v1283 20 := klr_le1 h1325 b1320 b1322
                                  refine lv_lload hx hb dX12_tells_334 (lv_at hl 2 rfl) ?_
                                  refine lv_lstore (lv' := [(6, .long v1283), (12, .int 1), (11, .int bq1289), (9, .long v1283), (8, .int 3), (0, .ref o), (1, .int hd), (2, .int bd), (3, .int pt), (4, .int hi), (5, .int wo)]) hx hb dX12_tells_336 hl (by decide) rfl (fun ls hl => ?_)
                                  refine lv_aload_n hx hb dX12_tells_338 rfl (lv_at hl 5 rfl) ?_
                                  refine lv_dup hx hb dX12_tells_339 rfl ?_
                                  refine va_get (D := D) (ci := 12) (v := .int (u1295 22)) (C := RX12) (T := TX12) (N := 48) hx hb hg inC12 hown hK hP 0 rfl rfl 22 (by decide) (hg _ wt5_182) (fun _ h9 => h9) rfl dX12_tells_340 ?_
                                  refine k_top (z := gv1298) egv1298.symm ?_
                                  refine lv_iconst (v := 1) hx hb dX12_tells_343 (by decide) ?_
                                  refine lv_iadd hx hb dX12_tells_344 ?_
                                  refine lv_topi (fun t1327 et1327 => ?_)
                                  have b1328 : kb 1 t1327 2802 := kb_eq et1327 (kb_add b1300 kc_1 (by decide) (by decide))
                                  have qt1327 : t1327.toInt = gv1298.toInt + 1 := by rw [et1327]; exact kt_addc b1300 kc_1 (by decide) (by decide)
                                  have hg1329 : t1327.toInt = 400 * (t : Int) + ((jj + 1 : Nat) : Int) := by first | exact kn7_go qt1327 hg1299 | (rw [qt1327, hg1299]; omega)
                                  refine va_put (D := D) (ci := 12) (v := .int t1327) (ty := .int) (C := RX12) (T := TX12) (N := 48) hx hb hg inC12 tyX12 tyX12_ok nmX12 hown hK hP hD hS 0 rfl rfl 22 (by decide) (hg _ wt5_182) (fun _ h9 => h9) rfl (by decide +kernel) rfl rfl (Nat.le_of_ble_eq_true rfl) dX12_tells_345 (fun H locs hP hD hS => ?_)
                                  have hP : va_P D vwCl (mW K o r (upd u1295 22 t1327) a_778 g) H := hP
                                  have hD : va_D A (mW K o r (upd u1295 22 t1327) a_778 g) := hD
                                  refine k_gen (P := fun z => va_P D vwCl (mW K o r z a_778 g) H ∧ va_D A (mW K o r z a_778 g) ∧ (mI z a_778) ∧ (mE (XR []) f a z a_778) ∧ (mZ [22, 23, 24, 25] [26] f a z a_778) ∧ (eS z a_778 t false)) (upd u1295 22 t1327) ⟨hP, hD, (mI_f hI (fI_st hI.1 22 (kb_any _) (by decide) (by decide))), (mE_f hE (by decide)), (mZ_f hZ rfl), (eS_f hk0 (by decide) (by decide))⟩ (fun f_1330 ef_1330 hq => ?_)
                                  obtain ⟨hP, hD, hI, hE, hZ, hk0⟩ := hq
                                  refine lv_goto (tgt := 198) hx hb dX12_tells_348 (by decide) ?_
                                  exact ihlp794 (jj + 1) (cc + 1) f_1330 _ _ _ v1283 (by first | exact kn7_ml hmlp794 | (have w1 := hmlp794; omega)) hI hE hZ hk0 b1326 (by rw [(show f_1330 22 = t1327 from kn7_u1 ef_1330 rfl)]; exact hg1329) (hnx.elim (fun q => Or.inl ⟨q.1, q.2.2.symm⟩) (fun q => Or.inr ⟨q.1, by first | exact kn7_sl q.2 | (have w1 := q.2; omega)⟩)) (by rw [lastOf_s, ct_y (hhk.trans (by rw [← c1302]; decide +kernel)) (by rw [hv3]; rfl) (mr_s hr1291 c1310)]; show (v1283 : Int64).toInt = max 0 (min hi.toInt (v1283.toInt)); have w0 := bhi.1; have k0 : (0 : Int64).toInt = 0 := (by decide +kernel); have k1 : (1 : Int64).toInt = 1 := (by decide +kernel); have k9t1321 : t1321.toInt = hi.toInt := (congrArg Int64.toInt et1321).trans (kt_i2l _); omega) (by first | exact Nat.succ_le_of_lt hcs.1 | (have w1 := hcs.1; omega)) hP hD hS (lv_sub hl [0, 5, 6, 7, 8, 9, 10] rfl)
                                · have h1331 := klc_nle (et1323 ▸ c1324)
                                  have b1332 : kbl 1 v1283 9223372036854775807 := klr_lt2 h1331 b1322 b1320 (by decide)
                                  refine lv_iload hx hb dX12_tells_328 (lv_at hl 9 rfl) ?_
                                  refine lv_i2l hx hb dX12_tells_330 rfl ?_
                                  refine lv_topl (fun t1333 et1333 => ?_)
                                  have b1334 : kbl 0 t1333 20 := kbl_eq et1333 (kbl_i2l bhi)
                                  refine lv_goto (tgt := 336) hx hb dX12_tells_331 (by decide) ?_
                                  refine lv_lstore (lv' := [(6, .long t1333), (12, .int 1), (11, .int bq1289), (9, .long v1283), (8, .int 3), (0, .ref o), (1, .int hd), (2, .int bd), (3, .int pt), (4, .int hi), (5, .int wo)]) hx hb dX12_tells_336 hl (by decide) rfl (fun ls hl => ?_)
                                  refine lv_aload_n hx hb dX12_tells_338 rfl (lv_at hl 5 rfl) ?_
                                  refine lv_dup hx hb dX12_tells_339 rfl ?_
                                  refine va_get (D := D) (ci := 12) (v := .int (u1295 22)) (C := RX12) (T := TX12) (N := 48) hx hb hg inC12 hown hK hP 0 rfl rfl 22 (by decide) (hg _ wt5_182) (fun _ h9 => h9) rfl dX12_tells_340 ?_
                                  refine k_top (z := gv1298) egv1298.symm ?_
                                  refine lv_iconst (v := 1) hx hb dX12_tells_343 (by decide) ?_
                                  refine lv_iadd hx hb dX12_tells_344 ?_
                                  refine lv_topi (fun t1335 et1335 => ?_)
                                  have b1336 : kb 1 t1335 2802 := kb_eq et1335 (kb_add b1300 kc_1 (by decide) (by decide))
                                  have qt1335 : t1335.toInt = gv1298.toInt + 1 := by rw [et1335]; exact kt_addc b1300 kc_1 (by decide) (by decide)
                                  have hg1337 : t1335.toInt = 400 * (t : Int) + ((jj + 1 : Nat) : Int) := by first | exact kn7_go qt1335 hg1299 | (rw [qt1335, hg1299]; omega)
                                  refine va_put (D := D) (ci := 12) (v := .int t1335) (ty := .int) (C := RX12) (T := TX12) (N := 48) hx hb hg inC12 tyX12 tyX12_ok nmX12 hown hK hP hD hS 0 rfl rfl 22 (by decide) (hg _ wt5_182) (fun _ h9 => h9) rfl (by decide +kernel) rfl rfl (Nat.le_of_ble_eq_true rfl) dX12_tells_345 (fun H locs hP hD hS => ?_)
                                  have hP : va_P D vwCl (mW K o r (upd u1295 22 t1335) a_778 g) H := hP
                                  have hD : va_D A (mW K o r (upd u1295 22 t1335) a_778 g) := hD
                                  refine k_gen (P := fun z => va_P D vwCl (mW K o r z a_778 g) H ∧ va_D A (mW K o r z a_778 g) ∧ (mI z a_778) ∧ (mE (XR []) f a z a_778) ∧ (mZ [22, 23, 24, 25] [26] f a z a_778) ∧ (eS z a_778 t false)) (upd u1295 22 t1335) ⟨hP, hD, (mI_f hI (fI_st hI.1 22 (kb_any _) (by decide) (by decide))), (mE_f hE (by decide)), (mZ_f hZ rfl), (eS_f hk0 (by decide) (by decide))⟩ (fun f_1338 ef_1338 hq => ?_)
                                  obtain ⟨hP, hD, hI, hE, hZ, hk0⟩ := hq
                                  refine lv_goto (tgt := 198) hx hb dX12_tells_348 (by decide) ?_
                                  exact ihlp794 (jj + 1) (cc + 1) f_1338 _ _ _ t1333 (by first | exact kn7_ml hmlp794 | (have w1 := hmlp794; omega)) hI hE hZ hk0 b1334 (by rw [(show f_1338 22 = t1335 from kn7_u1 ef_1338 rfl)]; exact hg1337) (hnx.elim (fun q => Or.inl ⟨q.1, q.2.2.symm⟩) (fun q => Or.inr ⟨q.1, by first | exact kn7_sl q.2 | (have w1 := q.2; omega)⟩)) (by rw [lastOf_s, ct_y (hhk.trans (by rw [← c1302]; decide +kernel)) (by rw [hv3]; rfl) (mr_s hr1291 c1310)]; show (t1333 : Int64).toInt = max 0 (min hi.toInt (v1283.toInt)); have w0 := bhi.1; have k0 : (0 : Int64).toInt = 0 := (by decide +kernel); have k1 : (1 : Int64).toInt = 1 := (by decide +kernel); have k9 : t1333.toInt = hi.toInt := (congrArg Int64.toInt et1333).trans (kt_i2l _); have k9t1321 : t1321.toInt = hi.toInt := (congrArg Int64.toInt et1321).trans (kt_i2l _); have k9t1333 : t1333.toInt = hi.toInt := (congrArg Int64.toInt et1333).trans (kt_i2l _); omega) (by first | exact Nat.succ_le_of_lt hcs.1 | (have w1 := hcs.1; omega)) hP hD hS (lv_sub hl [0, 5, 6, 7, 8, 9, 10] rfl)
                              · have h1339 := klc_nge (et1317 ▸ c1318)
                                have b1340 : kbl (-9223372036854775808) v1283 (-1) := klr_lt1 h1339 (kbl_any v1283) kcl_0 (by decide)
                                refine lv_lconst (v := 0) hx hb dX12_tells_315 (by decide) ?_
                                refine lv_goto (tgt := 336) hx hb dX12_tells_316 (by decide) ?_
                                refine lv_lstore (lv' := [(6, .long 0), (12, .int 1), (11, .int bq1289), (9, .long v1283), (8, .int 3), (0, .ref o), (1, .int hd), (2, .int bd), (3, .int pt), (4, .int hi), (5, .int wo)]) hx hb dX12_tells_336 hl (by decide) rfl (fun ls hl => ?_)
                                refine lv_aload_n hx hb dX12_tells_338 rfl (lv_at hl 5 rfl) ?_
                                refine lv_dup hx hb dX12_tells_339 rfl ?_
                                refine va_get (D := D) (ci := 12) (v := .int (u1295 22)) (C := RX12) (T := TX12) (N := 48) hx hb hg inC12 hown hK hP 0 rfl rfl 22 (by decide) (hg _ wt5_182) (fun _ h9 => h9) rfl dX12_tells_340 ?_
                                refine k_top (z := gv1298) egv1298.symm ?_
                                refine lv_iconst (v := 1) hx hb dX12_tells_343 (by decide) ?_
                                refine lv_iadd hx hb dX12_tells_344 ?_
                                refine lv_topi (fun t1341 et1341 => ?_)
                                have b1342 : kb 1 t1341 2802 := kb_eq et1341 (kb_add b1300 kc_1 (by decide) (by decide))
                                have qt1341 : t1341.toInt = gv1298.toInt + 1 := by rw [et1341]; exact kt_addc b1300 kc_1 (by decide) (by decide)
                                have hg1343 : t1341.toInt = 400 * (t : Int) + ((jj + 1 : Nat) : Int) := by first | exact kn7_go qt1341 hg1299 | (rw [qt1341, hg1299]; omega)
                                refine va_put (D := D) (ci := 12) (v := .int t1341) (ty := .int) (C := RX12) (T := TX12) (N := 48) hx hb hg inC12 tyX12 tyX12_ok nmX12 hown hK hP hD hS 0 rfl rfl 22 (by decide) (hg _ wt5_182) (fun _ h9 => h9) rfl (by decide +kernel) rfl rfl (Nat.le_of_ble_eq_true rfl) dX12_tells_345 (fun H locs hP hD hS => ?_)
                                have hP : va_P D vwCl (mW K o r (upd u1295 22 t1341) a_778 g) H := hP
                                have hD : va_D A (mW K o r (upd u1295 22 t1341) a_778 g) := hD
                                refine k_gen (P := fun z => va_P D vwCl (mW K o r z a_778 g) H ∧ va_D A (mW K o r z a_778 g) ∧ (mI z a_778) ∧ (mE (XR []) f a z a_778) ∧ (mZ [22, 23, 24, 25] [26] f a z a_778) ∧ (eS z a_778 t false)) (upd u1295 22 t1341) ⟨hP, hD, (mI_f hI (fI_st hI.1 22 (kb_any _) (by decide) (by decide))), (mE_f hE (by decide)), (mZ_f hZ rfl), (eS_f hk0 (by decide) (by decide))⟩ (fun f_1344 ef_1344 hq => ?_)
                                obtain ⟨hP, hD, hI, hE, hZ, hk0⟩ := hq
                                refine lv_goto (tgt := 198) hx hb dX12_tells_348 (by decide) ?_
                                exact ihlp794 (jj + 1) (cc + 1) f_1344 _ _ _ 0 (by first | exact kn7_ml hmlp794 | (have w1 := hmlp794; omega)) hI hE hZ hk0 (kbl_w kcl_0 (by decide) (by decide)) (by rw [(show f_1344 22 = t1341 from kn7_u1 ef_1344 rfl)]; exact hg1343) (hnx.elim (fun q => Or.inl ⟨q.1, q.2.2.symm⟩) (fun q => Or.inr ⟨q.1, by first | exact kn7_sl q.2 | (have w1 := q.2; omega)⟩)) (by rw [lastOf_s, ct_y (hhk.trans (by rw [← c1302]; decide +kernel)) (by rw [hv3]; rfl) (mr_s hr1291 c1310)]; show (0 : Int64).toInt = max 0 (min hi.toInt (v1283.toInt)); have w0 := bhi.1; have k0 : (0 : Int64).toInt = 0 := (by decide +kernel); have k1 : (1 : Int64).toInt = 1 := (by decide +kernel); omega) (by first | exact Nat.succ_le_of_lt hcs.1 | (have w1 := hcs.1; omega)) hP hD hS (lv_sub hl [0, 5, 6, 7, 8, 9, 10] rfl)
                    · exact kb_nsame c1301 kc_0 kc_0
                  · exact kb_dj c1281 kc_3 kc_4 (by decide)
            · have b1345 : kb 0 gv797 2799 := kb_go hk0 (mC_lt hk0 (ne_0 (tq_y hp2 (x := 4) (y := 2007) (by decide +kernel) (by decide +kernel) h1) (by decide +kernel))) hg798
              have hhk : (DD (a 2 106).toInt.toNat).2.2.1 cc = kHd 3 := hhd.trans (h1.trans (by decide +kernel))
              have hv1 : (DD (a 2 106).toInt.toNat).2.2.2.2.1 cc = e1 := hb1
              rcases hif with ⟨h2, h3⟩ | ⟨h2, hj, hv3⟩
              · refine lv_aload_n hx hb dX12_tells_198 rfl (lv_at hl 1 rfl) ?_
                refine va_get (D := D) (ci := 12) (v := .int (F793 22)) (C := RX12) (T := TX12) (N := 48) hx hb hg inC12 hown hK hP 0 rfl rfl 22 (by decide) (hg _ wt5_182) (fun _ h9 => h9) rfl dX12_tells_199 ?_
                refine k_top (z := gv797) egv797.symm ?_
                refine lv_aload_n hx hb dX12_tells_202 rfl (lv_at hl 1 rfl) ?_
                refine va_get (D := D) (ci := 12) (v := .int (F793 23)) (C := RX12) (T := TX12) (N := 48) hx hb hg inC12 hown hK hP 0 rfl rfl 23 (by decide) (hg _ wt5_183) (fun _ h9 => h9) rfl dX12_tells_203 ?_
                refine lv_topi (fun t1346 et1346 => ?_)
                refine lv_icmp_ge (tgt := 351) hx hb dX12_tells_206 (by decide) (fun c1347 => ?_) (fun c1347 => ?_)
                · exact absurd (kc_le c1347) (by have w1 := congrArg Int32.toInt et1346.symm; have w2 := hk0.2.1; have w3 := hg798; have w4 := mC_lS hk0 (ne_0 (tq_y hp2 (x := 4) (y := 2007) (by decide +kernel) (by decide +kernel) h1) (by decide +kernel)); omega)
                · have h1348 := (kc_nle c1347)
                  have b1349 : kb 1 t1346 2147483647 := kr_lt2 h1348 b1345 (kb_any t1346) (by decide)
                  refine lv_aload_n hx hb dX12_tells_209 rfl (lv_at hl 1 rfl) ?_
                  refine lv_aload_n hx hb dX12_tells_210 rfl (lv_at hl 1 rfl) ?_
                  refine va_get (D := D) (ci := 12) (v := .int (F793 22)) (C := RX12) (T := TX12) (N := 48) hx hb hg inC12 hown hK hP 0 rfl rfl 22 (by decide) (hg _ wt5_182) (fun _ h9 => h9) rfl dX12_tells_211 ?_
                  refine k_top (z := gv797) egv797.symm ?_
                  refine kI.callV (As := [.int gv797]) (rest := []) ⟨hx, hb, hml, hown, hg⟩ (m_codeAt l o r F793 a_778 g hI gv797  t (i) false hk0 hg798) (cwV 1 hg (kgV wt7_47 wt7_49 wp5_8 wt1_14 wt7_50) rfl rfl rfl (by decide +kernel) ⟨by decide, by decide⟩) hK hP hD hS hA mIs [] rfl (wr := []) rfl rfl rfl (fun i h => by cases h) 0 12 rfl rfl rfl hl.1 rfl (Nat.le_of_ble_eq_true rfl) dX12_tells_214 ⟨Nat.le_refl _, Nat.le_refl _⟩ (fun v1351 u1352 H locs hw1350 hP hD hS => ?_)
                  have hP : va_P D vwCl (mW K o r F793 a_778 g) H := hP
                  have hD : va_D A (mW K o r F793 a_778 g) := hD
                  refine k_top (z := 4) (hw1350.2.trans (tq_y hp2 (x := 4) (y := 2007) (by decide +kernel) (by decide +kernel) h1)) ?_
                  refine lv_istore (lv' := [(8, .int 4), (6, .long y792), (0, .ref o), (1, .int hd), (2, .int bd), (3, .int pt), (4, .int hi), (5, .int wo)]) hx hb dX12_tells_217 hl (by decide) rfl (fun ls hl => ?_)
                  refine lv_aload_n hx hb dX12_tells_219 rfl (lv_at hl 2 rfl) ?_
                  refine lv_iconst (v := 0) hx hb dX12_tells_220 (by decide) ?_
                  refine va_put (D := D) (ci := 12) (v := .int 0) (ty := .boolean) (C := RX12) (T := TX12) (N := 48) hx hb hg inC12 tyX12 tyX12_ok nmX12 hown hK hP hD hS 0 rfl rfl 24 (by decide) (hg _ wt5_184) (fun _ h9 => h9) rfl (by decide +kernel) rfl rfl (Nat.le_of_ble_eq_true rfl) dX12_tells_221 (fun H locs hP hD hS => ?_)
                  have hP : va_P D vwCl (mW K o r (upd F793 24 0) a_778 g) H := hP
                  have hD : va_D A (mW K o r (upd F793 24 0) a_778 g) := hD
                  refine k_gen (P := fun z => va_P D vwCl (mW K o r z a_778 g) H ∧ va_D A (mW K o r z a_778 g) ∧ (mI z a_778) ∧ (mE (XR []) f a z a_778) ∧ (mZ [22, 23, 24, 25] [26] f a z a_778) ∧ (eS z a_778 t false)) (upd F793 24 0) ⟨hP, hD, (mI_f hI (fI_st hI.1 24 kc_0 (by decide) (by decide))), (mE_f hE (by decide)), (mZ_f hZ rfl), (eS_f hk0 (by decide) (by decide))⟩ (fun f_1353 ef_1353 hq => ?_)
                  obtain ⟨hP, hD, hI, hE, hZ, hk0⟩ := hq
                  refine lv_aload_n hx hb dX12_tells_224 rfl (lv_at hl 2 rfl) ?_
                  refine lv_dup hx hb dX12_tells_225 rfl ?_
                  refine va_get (D := D) (ci := 12) (v := .int (f_1353 22)) (C := RX12) (T := TX12) (N := 48) hx hb hg inC12 hown hK hP 0 rfl rfl 22 (by decide) (hg _ wt5_182) (fun _ h9 => h9) rfl dX12_tells_226 ?_
                  refine k_top (z := gv797) ((show f_1353 22 = F793 22 from kn7_u1 ef_1353 rfl).trans egv797.symm) ?_
                  refine lv_iconst (v := 1) hx hb dX12_tells_229 (by decide) ?_
                  refine lv_iadd hx hb dX12_tells_230 ?_
                  refine lv_topi (fun t1354 et1354 => ?_)
                  have b1355 : kb 1 t1354 2800 := kb_eq et1354 (kb_add b1345 kc_1 (by decide) (by decide))
                  have qt1354 : t1354.toInt = gv797.toInt + 1 := by rw [et1354]; exact kt_addc b1345 kc_1 (by decide) (by decide)
                  have hg1356 : t1354.toInt = 400 * (t : Int) + ((i + 1 : Nat) : Int) := by first | exact kn7_go qt1354 hg798 | (rw [qt1354, hg798]; omega)
                  have b1357 : kb 0 t1354 2799 := kb_go hk0 (mC_lt hk0 (ne_0 (tq_y hp2 (x := 5) (y := 2003) (by decide +kernel) (by decide +kernel) h2) (by decide +kernel))) hg1356
                  refine va_put (D := D) (ci := 12) (v := .int t1354) (ty := .int) (C := RX12) (T := TX12) (N := 48) hx hb hg inC12 tyX12 tyX12_ok nmX12 hown hK hP hD hS 0 rfl rfl 22 (by decide) (hg _ wt5_182) (fun _ h9 => h9) rfl (by decide +kernel) rfl rfl (Nat.le_of_ble_eq_true rfl) dX12_tells_231 (fun H locs hP hD hS => ?_)
                  have hP : va_P D vwCl (mW K o r (upd f_1353 22 t1354) a_778 g) H := hP
                  have hD : va_D A (mW K o r (upd f_1353 22 t1354) a_778 g) := hD
                  refine k_gen (P := fun z => va_P D vwCl (mW K o r z a_778 g) H ∧ va_D A (mW K o r z a_778 g) ∧ (mI z a_778) ∧ (mE (XR []) f a z a_778) ∧ (mZ [22, 23, 24, 25] [26] f a z a_778) ∧ (eS z a_778 t false)) (upd f_1353 22 t1354) ⟨hP, hD, (mI_f hI (fI_st hI.1 22 (kb_any _) (by decide) (by decide))), (mE_f hE (by decide)), (mZ_f hZ rfl), (eS_f hk0 (by decide) (by decide))⟩ (fun f_1358 ef_1358 hq => ?_)
                  obtain ⟨hP, hD, hI, hE, hZ, hk0⟩ := hq
                  refine lv_iload hx hb dX12_tells_234 (lv_at hl 0 rfl) ?_
                  refine lv_iconst (v := 4) hx hb dX12_tells_236 (by decide) ?_
                  refine lv_icmp_ne (tgt := 244) hx hb dX12_tells_237 (by decide) (fun c1359 => ?_) (fun c1359 => ?_)
                  · exact kb_nsame c1359 kc_4 kc_4
                  · refine lv_lconst (v := 1) hx hb dX12_tells_240 (by decide) ?_
                    refine lv_goto (tgt := 249) hx hb dX12_tells_241 (by decide) ?_
                    refine lv_lstore (lv' := [(9, .long 1), (8, .int 4), (6, .long y792), (0, .ref o), (1, .int hd), (2, .int bd), (3, .int pt), (4, .int hi), (5, .int wo)]) hx hb dX12_tells_249 hl (by decide) rfl (fun ls hl => ?_)
                    refine lv_aload_n hx hb dX12_tells_251 rfl (lv_at hl 3 rfl) ?_
                    refine va_get (D := D) (ci := 12) (v := .int (f_1358 24)) (C := RX12) (T := TX12) (N := 48) hx hb hg inC12 hown hK hP 0 rfl rfl 24 (by decide) (hg _ wt5_184) (fun _ h9 => h9) rfl dX12_tells_252 ?_
                    refine k_top (z := 0) ((show f_1358 24 = f_1353 24 from kn7_u1 ef_1358 rfl).trans (show f_1353 24 = 0 from kn7_u1 ef_1353 rfl)) ?_
                    refine lv_istore (lv' := [(11, .int 0), (9, .long 1), (8, .int 4), (6, .long y792), (0, .ref o), (1, .int hd), (2, .int bd), (3, .int pt), (4, .int hi), (5, .int wo)]) hx hb dX12_tells_255 hl (by decide) rfl (fun ls hl => ?_)
                    refine lv_aload_n hx hb dX12_tells_257 rfl (lv_at hl 4 rfl) ?_
                    refine lv_iconst (v := 0) hx hb dX12_tells_258 (by decide) ?_
                    refine va_put (D := D) (ci := 12) (v := .int 0) (ty := .boolean) (C := RX12) (T := TX12) (N := 48) hx hb hg inC12 tyX12 tyX12_ok nmX12 hown hK hP hD hS 0 rfl rfl 24 (by decide) (hg _ wt5_184) (fun _ h9 => h9) rfl (by decide +kernel) rfl rfl (Nat.le_of_ble_eq_true rfl) dX12_tells_259 (fun H locs hP hD hS => ?_)
                    have hP : va_P D vwCl (mW K o r (upd f_1358 24 0) a_778 g) H := hP
                    have hD : va_D A (mW K o r (upd f_1358 24 0) a_778 g) := hD
                    refine k_gen (P := fun z => va_P D vwCl (mW K o r z a_778 g) H ∧ va_D A (mW K o r z a_778 g) ∧ (mI z a_778) ∧ (mE (XR []) f a z a_778) ∧ (mZ [22, 23, 24, 25] [26] f a z a_778) ∧ (eS z a_778 t false)) (upd f_1358 24 0) ⟨hP, hD, (mI_f hI (fI_st hI.1 24 kc_0 (by decide) (by decide))), (mE_f hE (by decide)), (mZ_f hZ rfl), (eS_f hk0 (by decide) (by decide))⟩ (fun f_1360 ef_1360 hq => ?_)
                    obtain ⟨hP, hD, hI, hE, hZ, hk0⟩ := hq
                    refine lv_aload_n hx hb dX12_tells_262 rfl (lv_at hl 4 rfl) ?_
                    refine lv_iconst (v := 5) hx hb dX12_tells_263 (by decide) ?_
                    refine kI.callV (As := [.int 5]) (rest := []) ⟨hx, hb, hml, hown, hg⟩ (m_passes0 l o r f_1360 a_778 g hI 5 (kb_w kc_5 (by decide) (by decide)) t (i + 1) false hk0 (by rw [((show f_1360 22 = f_1358 22 from kn7_u1 ef_1360 rfl).trans (show f_1358 22 = t1354 from kn7_u1 ef_1358 rfl))]; exact hg1356)) (cwV 1 hg (kgV wt7_63 wt7_65 wp5_12 wt1_14 wt7_66) rfl rfl rfl (by decide +kernel) ⟨by decide, by decide⟩) hK hP hD hS hA mIs [] rfl (wr := []) rfl rfl rfl (fun i h => by cases h) 0 12 rfl rfl rfl hl.1 rfl (Nat.le_of_ble_eq_true rfl) dX12_tells_264 ⟨Nat.le_refl _, Nat.le_refl _⟩ (fun v1362 u1363 H locs hw1361 hP hD hS => ?_)
                    have hP : va_P D vwCl (mW K o r u1363 a_778 g) H := hP
                    have hD : va_D A (mW K o r u1363 a_778 g) := hD
                    have hI : mI u1363 a_778 := hw1361.2.1
                    have eE1364 : fE [22] f_1360 u1363 := hw1361.2.2.1
                    have hE : mE (XR []) f a u1363 a_778 := mE_fE hE eE1364 (by decide)
                    have hZ : mZ [22, 23, 24, 25] [26] f a u1363 a_778 := mZ_fE hZ (fE_w (by decide) eE1364)
                    have hk0 : eS u1363 a_778 t false := eS_fE eE1364 hk0 (by decide) (by decide)
                    have hz1365 := pass_y hw1361.2.2.2 (tq_y hp2 (x := 5) (y := 2003) (by decide +kernel) (by decide +kernel) h2)
                    refine k_top (z := 1) hz1365.1 ?_
                    obtain ⟨gv1366, egv1366⟩ : ∃ z : Int32, z = u1363 22 := ⟨_, rfl⟩
                    have hg1367 : gv1366.toInt = 400 * (t : Int) + ((i + 1 + 1 : Nat) : Int) := by rw [egv1366]; exact hz1365.2
                    refine lv_if_eq (tgt := 278) hx hb dX12_tells_267 (by decide) (fun c1368 => ?_) (fun c1368 => ?_)
                    · exact kb_dj c1368 kc_1 kc_0 (by decide)
                    · refine lv_aload_n hx hb dX12_tells_270 rfl (lv_at hl 4 rfl) ?_
                      refine lv_iconst (v := 1) hx hb dX12_tells_271 (by decide) ?_
                      refine kI.callV (As := [.int 1]) (rest := []) ⟨hx, hb, hml, hown, hg⟩ ((n_allTest 8) l o r u1363 a_778 g hI 1 (kb_w kc_1 (by decide) (by decide)) t (i + 1 + 1) (jj) false T (lwW (a 2) bd pt) ((DD (a 2 106).toInt.toNat).2.2.2.2.2.2 cc) hk0 (by rw [egv1366.symm]; exact hg1367) hp2 (hp3 u1363) h3) (cwV 1 hg (kgV wt7_80 wt7_82 wp5_15 wt1_14 wt7_83) rfl rfl rfl (by decide +kernel) ⟨by decide, by decide⟩) hK hP hD hS hA mIs [] rfl (wr := []) rfl rfl rfl (fun i h => by cases h) 0 12 rfl rfl rfl hl.1 rfl (Nat.le_of_ble_eq_true rfl) dX12_tells_272 ⟨Nat.le_refl _, Nat.le_refl _⟩ (fun v1370 u1371 H locs hw1369 hP hD hS => ?_)
                      have hP : va_P D vwCl (mW K o r u1371 a_778 g) H := hP
                      have hD : va_D A (mW K o r u1371 a_778 g) := hD
                      have hI : mI u1371 a_778 := hw1369.2.1
                      have eE1372 : fE [22, 24] u1363 u1371 := hw1369.2.2.1
                      have hE : mE (XR []) f a u1371 a_778 := mE_fE hE eE1372 (by decide)
                      have hZ : mZ [22, 23, 24, 25] [26] f a u1371 a_778 := mZ_fE hZ (fE_w (by decide) eE1372)
                      have hk0 : eS u1371 a_778 t false := eS_fE eE1372 hk0 (by decide) (by decide)
                      obtain ⟨gv1373, egv1373⟩ : ∃ z : Int32, z = u1371 22 := ⟨_, rfl⟩
                      have hg1374 : gv1373.toInt = 400 * (t : Int) + ((jj : Nat) : Int) := by rw [egv1373]; exact hw1369.2.2.2.1
                      have b1375 : kb 0 gv1373 2801 := kb_go1 hk0 (by have w1 := hk0.2.2.2.2; omega) hg1374
                      obtain ⟨bq1376, ebq1376⟩ : ∃ z : Int32, z = u1371 24 := ⟨_, rfl⟩
                      have b1377 : kb 0 bq1376 1 := kb_eq ebq1376 (fI_at hI.1 24 (by decide) (by decide))
                      have hr1378 : mTv 1 0 (((DD (a 2 106).toInt.toNat).2.2.2.2.2.2 cc) (lwW (a 2) bd pt)) bq1376 v1370 := by have w1 := hw1369.2.2.2.2; rw [((eE1364 24 (by decide)).trans (show f_1360 24 = 0 from kn7_u1 ef_1360 rfl)), ← ebq1376] at w1; exact w1
                      refine lv_if_eq (tgt := 282) hx hb dX12_tells_275 (by decide) (fun c1379 => ?_) (fun c1379 => ?_)
                      · have b1380 : kb 0 v1370 0 := kb_eq c1379 kc_0
                        refine lv_iconst (v := 0) hx hb dX12_tells_282 (by decide) ?_
                        refine lv_istore (lv' := [(12, .int 0), (11, .int 0), (9, .long 1), (8, .int 4), (6, .long y792), (0, .ref o), (1, .int hd), (2, .int bd), (3, .int pt), (4, .int hi), (5, .int wo)]) hx hb dX12_tells_283 hl (by decide) rfl (fun ls hl => ?_)
                        refine lv_iload hx hb dX12_tells_285 (lv_at hl 3 rfl) ?_
                        refine lv_iload_n hx hb dX12_tells_287 rfl (lv_at hl 6 rfl) ?_
                        refine lv_icmp_ne (tgt := 338) hx hb dX12_tells_288 (by decide) (fun c1381 => ?_) (fun c1381 => ?_)
                        · refine lv_aload_n hx hb dX12_tells_338 rfl (lv_at hl 5 rfl) ?_
                          refine lv_dup hx hb dX12_tells_339 rfl ?_
                          refine va_get (D := D) (ci := 12) (v := .int (u1371 22)) (C := RX12) (T := TX12) (N := 48) hx hb hg inC12 hown hK hP 0 rfl rfl 22 (by decide) (hg _ wt5_182) (fun _ h9 => h9) rfl dX12_tells_340 ?_
                          refine k_top (z := gv1373) egv1373.symm ?_
                          refine lv_iconst (v := 1) hx hb dX12_tells_343 (by decide) ?_
                          refine lv_iadd hx hb dX12_tells_344 ?_
                          refine lv_topi (fun t1382 et1382 => ?_)
                          have b1383 : kb 1 t1382 2802 := kb_eq et1382 (kb_add b1375 kc_1 (by decide) (by decide))
                          have qt1382 : t1382.toInt = gv1373.toInt + 1 := by rw [et1382]; exact kt_addc b1375 kc_1 (by decide) (by decide)
                          have hg1384 : t1382.toInt = 400 * (t : Int) + ((jj + 1 : Nat) : Int) := by first | exact kn7_go qt1382 hg1374 | (rw [qt1382, hg1374]; omega)
                          refine va_put (D := D) (ci := 12) (v := .int t1382) (ty := .int) (C := RX12) (T := TX12) (N := 48) hx hb hg inC12 tyX12 tyX12_ok nmX12 hown hK hP hD hS 0 rfl rfl 22 (by decide) (hg _ wt5_182) (fun _ h9 => h9) rfl (by decide +kernel) rfl rfl (Nat.le_of_ble_eq_true rfl) dX12_tells_345 (fun H locs hP hD hS => ?_)
                          have hP : va_P D vwCl (mW K o r (upd u1371 22 t1382) a_778 g) H := hP
                          have hD : va_D A (mW K o r (upd u1371 22 t1382) a_778 g) := hD
                          refine k_gen (P := fun z => va_P D vwCl (mW K o r z a_778 g) H ∧ va_D A (mW K o r z a_778 g) ∧ (mI z a_778) ∧ (mE (XR []) f a z a_778) ∧ (mZ [22, 23, 24, 25] [26] f a z a_778) ∧ (eS z a_778 t false)) (upd u1371 22 t1382) ⟨hP, hD, (mI_f hI (fI_st hI.1 22 (kb_any _) (by decide) (by decide))), (mE_f hE (by decide)), (mZ_f hZ rfl), (eS_f hk0 (by decide) (by decide))⟩ (fun f_1385 ef_1385 hq => ?_)
                          obtain ⟨hP, hD, hI, hE, hZ, hk0⟩ := hq
                          refine lv_goto (tgt := 198) hx hb dX12_tells_348 (by decide) ?_
                          exact ihlp794 (jj + 1) (cc + 1) f_1385 _ _ _ y792 (by first | exact kn7_ml hmlp794 | (have w1 := hmlp794; omega)) hI hE hZ hk0 b796 (by rw [(show f_1385 22 = t1382 from kn7_u1 ef_1385 rfl)]; exact hg1384) (hnx.elim (fun q => Or.inl ⟨q.1, q.2.2.symm⟩) (fun q => Or.inr ⟨q.1, by first | exact kn7_sl q.2 | (have w1 := q.2; omega)⟩)) (by rw [lastOf_s, ct_n (fun q => c1381 (Int32.toInt_inj.mp (by first | exact (kHd_j (hhk.symm.trans q) bhd).trans (by decide +kernel) | (have w1 := kHd_j (hhk.symm.trans q) bhd; have w2 : (4 : Int32).toInt = 4 := (by decide +kernel); omega))))]; exact htd) (by first | exact Nat.succ_le_of_lt hcs.1 | (have w1 := hcs.1; omega)) hP hD hS (lv_sub hl [4, 5, 6, 7, 8, 9, 10] rfl)
                        · have b1386 : kb 4 hd 4 := kb_eq c1381.symm kc_4
                          refine lv_iload hx hb dX12_tells_291 (lv_at hl 0 rfl) ?_
                          refine lv_if_eq (tgt := 338) hx hb dX12_tells_293 (by decide) (fun c1387 => ?_) (fun c1387 => ?_)
                          · refine lv_aload_n hx hb dX12_tells_338 rfl (lv_at hl 5 rfl) ?_
                            refine lv_dup hx hb dX12_tells_339 rfl ?_
                            refine va_get (D := D) (ci := 12) (v := .int (u1371 22)) (C := RX12) (T := TX12) (N := 48) hx hb hg inC12 hown hK hP 0 rfl rfl 22 (by decide) (hg _ wt5_182) (fun _ h9 => h9) rfl dX12_tells_340 ?_
                            refine k_top (z := gv1373) egv1373.symm ?_
                            refine lv_iconst (v := 1) hx hb dX12_tells_343 (by decide) ?_
                            refine lv_iadd hx hb dX12_tells_344 ?_
                            refine lv_topi (fun t1388 et1388 => ?_)
                            have b1389 : kb 1 t1388 2802 := kb_eq et1388 (kb_add b1375 kc_1 (by decide) (by decide))
                            have qt1388 : t1388.toInt = gv1373.toInt + 1 := by rw [et1388]; exact kt_addc b1375 kc_1 (by decide) (by decide)
                            have hg1390 : t1388.toInt = 400 * (t : Int) + ((jj + 1 : Nat) : Int) := by first | exact kn7_go qt1388 hg1374 | (rw [qt1388, hg1374]; omega)
                            refine va_put (D := D) (ci := 12) (v := .int t1388) (ty := .int) (C := RX12) (T := TX12) (N := 48) hx hb hg inC12 tyX12 tyX12_ok nmX12 hown hK hP hD hS 0 rfl rfl 22 (by decide) (hg _ wt5_182) (fun _ h9 => h9) rfl (by decide +kernel) rfl rfl (Nat.le_of_ble_eq_true rfl) dX12_tells_345 (fun H locs hP hD hS => ?_)
                            have hP : va_P D vwCl (mW K o r (upd u1371 22 t1388) a_778 g) H := hP
                            have hD : va_D A (mW K o r (upd u1371 22 t1388) a_778 g) := hD
                            refine k_gen (P := fun z => va_P D vwCl (mW K o r z a_778 g) H ∧ va_D A (mW K o r z a_778 g) ∧ (mI z a_778) ∧ (mE (XR []) f a z a_778) ∧ (mZ [22, 23, 24, 25] [26] f a z a_778) ∧ (eS z a_778 t false)) (upd u1371 22 t1388) ⟨hP, hD, (mI_f hI (fI_st hI.1 22 (kb_any _) (by decide) (by decide))), (mE_f hE (by decide)), (mZ_f hZ rfl), (eS_f hk0 (by decide) (by decide))⟩ (fun f_1391 ef_1391 hq => ?_)
                            obtain ⟨hP, hD, hI, hE, hZ, hk0⟩ := hq
                            refine lv_goto (tgt := 198) hx hb dX12_tells_348 (by decide) ?_
                            exact ihlp794 (jj + 1) (cc + 1) f_1391 _ _ _ y792 (by first | exact kn7_ml hmlp794 | (have w1 := hmlp794; omega)) hI hE hZ hk0 b796 (by rw [(show f_1391 22 = t1388 from kn7_u1 ef_1391 rfl)]; exact hg1390) (hnx.elim (fun q => Or.inl ⟨q.1, q.2.2.symm⟩) (fun q => Or.inr ⟨q.1, by first | exact kn7_sl q.2 | (have w1 := q.2; omega)⟩)) (by rw [lastOf_s, ct_t (mt_0 hr1378 c1379)]; exact htd) (by first | exact Nat.succ_le_of_lt hcs.1 | (have w1 := hcs.1; omega)) hP hD hS (lv_sub hl [4, 5, 6, 7, 8, 9, 10] rfl)
                          · exact kb_nsame c1387 kc_0 kc_0
                      · have b1392 : kb 1 v1370 1 := kr_nel c1379 hw1369.1 kc_0 (by decide)
                        refine lv_iconst (v := 1) hx hb dX12_tells_278 (by decide) ?_
                        refine lv_goto (tgt := 283) hx hb dX12_tells_279 (by decide) ?_
                        refine lv_istore (lv' := [(12, .int 1), (11, .int 0), (9, .long 1), (8, .int 4), (6, .long y792), (0, .ref o), (1, .int hd), (2, .int bd), (3, .int pt), (4, .int hi), (5, .int wo)]) hx hb dX12_tells_283 hl (by decide) rfl (fun ls hl => ?_)
                        refine lv_iload hx hb dX12_tells_285 (lv_at hl 3 rfl) ?_
                        refine lv_iload_n hx hb dX12_tells_287 rfl (lv_at hl 6 rfl) ?_
                        refine lv_icmp_ne (tgt := 338) hx hb dX12_tells_288 (by decide) (fun c1393 => ?_) (fun c1393 => ?_)
                        · refine lv_aload_n hx hb dX12_tells_338 rfl (lv_at hl 5 rfl) ?_
                          refine lv_dup hx hb dX12_tells_339 rfl ?_
                          refine va_get (D := D) (ci := 12) (v := .int (u1371 22)) (C := RX12) (T := TX12) (N := 48) hx hb hg inC12 hown hK hP 0 rfl rfl 22 (by decide) (hg _ wt5_182) (fun _ h9 => h9) rfl dX12_tells_340 ?_
                          refine k_top (z := gv1373) egv1373.symm ?_
                          refine lv_iconst (v := 1) hx hb dX12_tells_343 (by decide) ?_
                          refine lv_iadd hx hb dX12_tells_344 ?_
                          refine lv_topi (fun t1394 et1394 => ?_)
                          have b1395 : kb 1 t1394 2802 := kb_eq et1394 (kb_add b1375 kc_1 (by decide) (by decide))
                          have qt1394 : t1394.toInt = gv1373.toInt + 1 := by rw [et1394]; exact kt_addc b1375 kc_1 (by decide) (by decide)
                          have hg1396 : t1394.toInt = 400 * (t : Int) + ((jj + 1 : Nat) : Int) := by first | exact kn7_go qt1394 hg1374 | (rw [qt1394, hg1374]; omega)
                          refine va_put (D := D) (ci := 12) (v := .int t1394) (ty := .int) (C := RX12) (T := TX12) (N := 48) hx hb hg inC12 tyX12 tyX12_ok nmX12 hown hK hP hD hS 0 rfl rfl 22 (by decide) (hg _ wt5_182) (fun _ h9 => h9) rfl (by decide +kernel) rfl rfl (Nat.le_of_ble_eq_true rfl) dX12_tells_345 (fun H locs hP hD hS => ?_)
                          have hP : va_P D vwCl (mW K o r (upd u1371 22 t1394) a_778 g) H := hP
                          have hD : va_D A (mW K o r (upd u1371 22 t1394) a_778 g) := hD
                          refine k_gen (P := fun z => va_P D vwCl (mW K o r z a_778 g) H ∧ va_D A (mW K o r z a_778 g) ∧ (mI z a_778) ∧ (mE (XR []) f a z a_778) ∧ (mZ [22, 23, 24, 25] [26] f a z a_778) ∧ (eS z a_778 t false)) (upd u1371 22 t1394) ⟨hP, hD, (mI_f hI (fI_st hI.1 22 (kb_any _) (by decide) (by decide))), (mE_f hE (by decide)), (mZ_f hZ rfl), (eS_f hk0 (by decide) (by decide))⟩ (fun f_1397 ef_1397 hq => ?_)
                          obtain ⟨hP, hD, hI, hE, hZ, hk0⟩ := hq
                          refine lv_goto (tgt := 198) hx hb dX12_tells_348 (by decide) ?_
                          exact ihlp794 (jj + 1) (cc + 1) f_1397 _ _ _ y792 (by first | exact kn7_ml hmlp794 | (have w1 := hmlp794; omega)) hI hE hZ hk0 b796 (by rw [(show f_1397 22 = t1394 from kn7_u1 ef_1397 rfl)]; exact hg1396) (hnx.elim (fun q => Or.inl ⟨q.1, q.2.2.symm⟩) (fun q => Or.inr ⟨q.1, by first | exact kn7_sl q.2 | (have w1 := q.2; omega)⟩)) (by rw [lastOf_s, ct_n (fun q => c1393 (Int32.toInt_inj.mp (by first | exact (kHd_j (hhk.symm.trans q) bhd).trans (by decide +kernel) | (have w1 := kHd_j (hhk.symm.trans q) bhd; have w2 : (4 : Int32).toInt = 4 := (by decide +kernel); omega))))]; exact htd) (by first | exact Nat.succ_le_of_lt hcs.1 | (have w1 := hcs.1; omega)) hP hD hS (lv_sub hl [4, 5, 6, 7, 8, 9, 10] rfl)
                        · have b1398 : kb 4 hd 4 := kb_eq c1393.symm kc_4
                          refine lv_iload hx hb dX12_tells_291 (lv_at hl 0 rfl) ?_
                          refine lv_if_eq (tgt := 338) hx hb dX12_tells_293 (by decide) (fun c1399 => ?_) (fun c1399 => ?_)
                          · exact kb_dj c1399 kc_1 kc_0 (by decide)
                          · refine lv_aload_n hx hb dX12_tells_296 rfl (lv_at hl 5 rfl) ?_
                            refine va_get (D := D) (ci := 12) (v := .int (u1371 24)) (C := RX12) (T := TX12) (N := 48) hx hb hg inC12 hown hK hP 0 rfl rfl 24 (by decide) (hg _ wt5_184) (fun _ h9 => h9) rfl dX12_tells_297 ?_
                            refine k_top (z := bq1376) ebq1376.symm ?_
                            refine lv_if_ne (tgt := 338) hx hb dX12_tells_300 (by decide) (fun c1400 => ?_) (fun c1400 => ?_)
                            · have b1401 : kb 1 bq1376 1 := kr_nel c1400 b1377 kc_0 (by decide)
                              refine lv_aload_n hx hb dX12_tells_338 rfl (lv_at hl 5 rfl) ?_
                              refine lv_dup hx hb dX12_tells_339 rfl ?_
                              refine va_get (D := D) (ci := 12) (v := .int (u1371 22)) (C := RX12) (T := TX12) (N := 48) hx hb hg inC12 hown hK hP 0 rfl rfl 22 (by decide) (hg _ wt5_182) (fun _ h9 => h9) rfl dX12_tells_340 ?_
                              refine k_top (z := gv1373) egv1373.symm ?_
                              refine lv_iconst (v := 1) hx hb dX12_tells_343 (by decide) ?_
                              refine lv_iadd hx hb dX12_tells_344 ?_
                              refine lv_topi (fun t1402 et1402 => ?_)
                              have b1403 : kb 1 t1402 2802 := kb_eq et1402 (kb_add b1375 kc_1 (by decide) (by decide))
                              have qt1402 : t1402.toInt = gv1373.toInt + 1 := by rw [et1402]; exact kt_addc b1375 kc_1 (by decide) (by decide)
                              have hg1404 : t1402.toInt = 400 * (t : Int) + ((jj + 1 : Nat) : Int) := by first | exact kn7_go qt1402 hg1374 | (rw [qt1402, hg1374]; omega)
                              refine va_put (D := D) (ci := 12) (v := .int t1402) (ty := .int) (C := RX12) (T := TX12) (N := 48) hx hb hg inC12 tyX12 tyX12_ok nmX12 hown hK hP hD hS 0 rfl rfl 22 (by decide) (hg _ wt5_182) (fun _ h9 => h9) rfl (by decide +kernel) rfl rfl (Nat.le_of_ble_eq_true rfl) dX12_tells_345 (fun H locs hP hD hS => ?_)
                              have hP : va_P D vwCl (mW K o r (upd u1371 22 t1402) a_778 g) H := hP
                              have hD : va_D A (mW K o r (upd u1371 22 t1402) a_778 g) := hD
                              refine k_gen (P := fun z => va_P D vwCl (mW K o r z a_778 g) H ∧ va_D A (mW K o r z a_778 g) ∧ (mI z a_778) ∧ (mE (XR []) f a z a_778) ∧ (mZ [22, 23, 24, 25] [26] f a z a_778) ∧ (eS z a_778 t false)) (upd u1371 22 t1402) ⟨hP, hD, (mI_f hI (fI_st hI.1 22 (kb_any _) (by decide) (by decide))), (mE_f hE (by decide)), (mZ_f hZ rfl), (eS_f hk0 (by decide) (by decide))⟩ (fun f_1405 ef_1405 hq => ?_)
                              obtain ⟨hP, hD, hI, hE, hZ, hk0⟩ := hq
                              refine lv_goto (tgt := 198) hx hb dX12_tells_348 (by decide) ?_
                              exact ihlp794 (jj + 1) (cc + 1) f_1405 _ _ _ y792 (by first | exact kn7_ml hmlp794 | (have w1 := hmlp794; omega)) hI hE hZ hk0 b796 (by rw [(show f_1405 22 = t1402 from kn7_u1 ef_1405 rfl)]; exact hg1404) (hnx.elim (fun q => Or.inl ⟨q.1, q.2.2.symm⟩) (fun q => Or.inr ⟨q.1, by first | exact kn7_sl q.2 | (have w1 := q.2; omega)⟩)) (by rw [lastOf_s, ct_t (mt_n hr1378 c1400)]; exact htd) (by first | exact Nat.succ_le_of_lt hcs.1 | (have w1 := hcs.1; omega)) hP hD hS (lv_sub hl [4, 5, 6, 7, 8, 9, 10] rfl)
                            · have b1406 : kb 0 bq1376 0 := kb_eq c1400 kc_0
                              refine lv_iload hx hb dX12_tells_303 (lv_at hl 1 rfl) ?_
                              refine lv_if_ne (tgt := 338) hx hb dX12_tells_305 (by decide) (fun c1407 => ?_) (fun c1407 => ?_)
                              · exact kb_nsame c1407 kc_0 kc_0
                              · refine lv_lload hx hb dX12_tells_308 (lv_at hl 2 rfl) ?_
                                refine lv_lconst (v := 0) hx hb dX12_tells_310 (by decide) ?_
                                refine W.lcmp hx hb dX12_tells_311 ?_
                                refine lv_topi (fun t1408 et1408 => ?_)
                                refine lv_if_ge (tgt := 319) hx hb dX12_tells_312 (by decide) (fun c1409 => ?_) (fun c1409 => ?_)
                                · have h1410 := klc_ge (et1408 ▸ c1409)
                                  refine lv_lload hx hb dX12_tells_319 (lv_at hl 2 rfl) ?_
                                  refine lv_iload hx hb dX12_tells_321 (lv_at hl 9 rfl) ?_
                                  refine lv_i2l hx hb dX12_tells_323 rfl ?_
                                  refine lv_topl (fun t1411 et1411 => ?_)
                                  have b1412 : kbl 0 t1411 20 := kbl_eq et1411 (kbl_i2l bhi)
                                  refine W.lcmp hx hb dX12_tells_324 ?_
                                  refine lv_topi (fun t1413 et1413 => ?_)
                                  refine lv_if_le (tgt := 334) hx hb dX12_tells_325 (by decide) (fun c1414 => ?_) (fun c1414 => ?_)
                                  · have h1415 := klc_le (et1413 ▸ c1414)
                                    have b1416 : kbl 1 t1411 20 := klr_le2 h1415 kcl_1 b1412
                                    refine lv_lload hx hb dX12_tells_334 (lv_at hl 2 rfl) ?_
                                    refine lv_lstore (lv' := [(6, .long 1), (12, .int 1), (11, .int 0), (9, .long 1), (8, .int 4), (0, .ref o), (1, .int hd), (2, .int bd), (3, .int pt), (4, .int hi), (5, .int wo)]) hx hb dX12_tells_336 hl (by decide) rfl (fun ls hl => ?_)
                                    refine lv_aload_n hx hb dX12_tells_338 rfl (lv_at hl 5 rfl) ?_
                                    refine lv_dup hx hb dX12_tells_339 rfl ?_
                                    refine va_get (D := D) (ci := 12) (v := .int (u1371 22)) (C := RX12) (T := TX12) (N := 48) hx hb hg inC12 hown hK hP 0 rfl rfl 22 (by decide) (hg _ wt5_182) (fun _ h9 => h9) rfl dX12_tells_340 ?_
                                    refine k_top (z := gv1373) egv1373.symm ?_
                                    refine lv_iconst (v := 1) hx hb dX12_tells_343 (by decide) ?_
                                    refine lv_iadd hx hb dX12_tells_344 ?_
                                    refine lv_topi (fun t1417 et1417 => ?_)
                                    have b1418 : kb 1 t1417 2802 := kb_eq et1417 (kb_add b1375 kc_1 (by decide) (by decide))
                                    have qt1417 : t1417.toInt = gv1373.toInt + 1 := by rw [et1417]; exact kt_addc b1375 kc_1 (by decide) (by decide)
                                    have hg1419 : t1417.toInt = 400 * (t : Int) + ((jj + 1 : Nat) : Int) := by first | exact kn7_go qt1417 hg1374 | (rw [qt1417, hg1374]; omega)
                                    refine va_put (D := D) (ci := 12) (v := .int t1417) (ty := .int) (C := RX12) (T := TX12) (N := 48) hx hb hg inC12 tyX12 tyX12_ok nmX12 hown hK hP hD hS 0 rfl rfl 22 (by decide) (hg _ wt5_182) (fun _ h9 => h9) rfl (by decide +kernel) rfl rfl (Nat.le_of_ble_eq_true rfl) dX12_tells_345 (fun H locs hP hD hS => ?_)
                                    have hP : va_P D vwCl (mW K o r (upd u1371 22 t1417) a_778 g) H := hP
                                    have hD : va_D A (mW K o r (upd u1371 22 t1417) a_778 g) := hD
                                    refine k_gen (P := fun z => va_P D vwCl (mW K o r z a_778 g) H ∧ va_D A (mW K o r z a_778 g) ∧ (mI z a_778) ∧ (mE (XR []) f a z a_778) ∧ (mZ [22, 23, 24, 25] [26] f a z a_778) ∧ (eS z a_778 t false)) (upd u1371 22 t1417) ⟨hP, hD, (mI_f hI (fI_st hI.1 22 (kb_any _) (by decide) (by decide))), (mE_f hE (by decide)), (mZ_f hZ rfl), (eS_f hk0 (by decide) (by decide))⟩ (fun f_1420 ef_1420 hq => ?_)
                                    obtain ⟨hP, hD, hI, hE, hZ, hk0⟩ := hq
                                    refine lv_goto (tgt := 198) hx hb dX12_tells_348 (by decide) ?_
                                    exact ihlp794 (jj + 1) (cc + 1) f_1420 _ _ _ 1 (by first | exact kn7_ml hmlp794 | (have w1 := hmlp794; omega)) hI hE hZ hk0 (kbl_w kcl_1 (by decide) (by decide)) (by rw [(show f_1420 22 = t1417 from kn7_u1 ef_1420 rfl)]; exact hg1419) (hnx.elim (fun q => Or.inl ⟨q.1, q.2.2.symm⟩) (fun q => Or.inr ⟨q.1, by first | exact kn7_sl q.2 | (have w1 := q.2; omega)⟩)) (by rw [lastOf_s, ct_y (hhk.trans (by rw [← c1393]; decide +kernel)) (by have w1 := mt_1 hr1378 c1400; rw [kb_11 b1392] at w1; exact w1) (by rw [hv1]; rfl)]; show (1 : Int64).toInt = max 0 (min hi.toInt (1)); have w0 := bhi.1; have k0 : (0 : Int64).toInt = 0 := (by decide +kernel); have k1 : (1 : Int64).toInt = 1 := (by decide +kernel); have k9t1411 : t1411.toInt = hi.toInt := (congrArg Int64.toInt et1411).trans (kt_i2l _); omega) (by first | exact Nat.succ_le_of_lt hcs.1 | (have w1 := hcs.1; omega)) hP hD hS (lv_sub hl [0, 5, 6, 7, 8, 9, 10] rfl)
                                  · have h1421 := klc_nle (et1413 ▸ c1414)
                                    have b1422 : kbl 0 t1411 0 := klr_lt1 h1421 b1412 kcl_1 (by decide)
                                    refine lv_iload hx hb dX12_tells_328 (lv_at hl 9 rfl) ?_
                                    refine lv_i2l hx hb dX12_tells_330 rfl ?_
                                    refine lv_topl (fun t1423 et1423 => ?_)
                                    have b1424 : kbl 0 t1423 20 := kbl_eq et1423 (kbl_i2l bhi)
                                    refine lv_goto (tgt := 336) hx hb dX12_tells_331 (by decide) ?_
                                    refine lv_lstore (lv' := [(6, .long t1423), (12, .int 1), (11, .int 0), (9, .long 1), (8, .int 4), (0, .ref o), (1, .int hd), (2, .int bd), (3, .int pt), (4, .int hi), (5, .int wo)]) hx hb dX12_tells_336 hl (by decide) rfl (fun ls hl => ?_)
                                    refine lv_aload_n hx hb dX12_tells_338 rfl (lv_at hl 5 rfl) ?_
                                    refine lv_dup hx hb dX12_tells_339 rfl ?_
                                    refine va_get (D := D) (ci := 12) (v := .int (u1371 22)) (C := RX12) (T := TX12) (N := 48) hx hb hg inC12 hown hK hP 0 rfl rfl 22 (by decide) (hg _ wt5_182) (fun _ h9 => h9) rfl dX12_tells_340 ?_
                                    refine k_top (z := gv1373) egv1373.symm ?_
                                    refine lv_iconst (v := 1) hx hb dX12_tells_343 (by decide) ?_
                                    refine lv_iadd hx hb dX12_tells_344 ?_
                                    refine lv_topi (fun t1425 et1425 => ?_)
                                    have b1426 : kb 1 t1425 2802 := kb_eq et1425 (kb_add b1375 kc_1 (by decide) (by decide))
                                    have qt1425 : t1425.toInt = gv1373.toInt + 1 := by rw [et1425]; exact kt_addc b1375 kc_1 (by decide) (by decide)
                                    have hg1427 : t1425.toInt = 400 * (t : Int) + ((jj + 1 : Nat) : Int) := by first | exact kn7_go qt1425 hg1374 | (rw [qt1425, hg1374]; omega)
                                    refine va_put (D := D) (ci := 12) (v := .int t1425) (ty := .int) (C := RX12) (T := TX12) (N := 48) hx hb hg inC12 tyX12 tyX12_ok nmX12 hown hK hP hD hS 0 rfl rfl 22 (by decide) (hg _ wt5_182) (fun _ h9 => h9) rfl (by decide +kernel) rfl rfl (Nat.le_of_ble_eq_true rfl) dX12_tells_345 (fun H locs hP hD hS => ?_)
                                    have hP : va_P D vwCl (mW K o r (upd u1371 22 t1425) a_778 g) H := hP
                                    have hD : va_D A (mW K o r (upd u1371 22 t1425) a_778 g) := hD
                                    refine k_gen (P := fun z => va_P D vwCl (mW K o r z a_778 g) H ∧ va_D A (mW K o r z a_778 g) ∧ (mI z a_778) ∧ (mE (XR []) f a z a_778) ∧ (mZ [22, 23, 24, 25] [26] f a z a_778) ∧ (eS z a_778 t false)) (upd u1371 22 t1425) ⟨hP, hD, (mI_f hI (fI_st hI.1 22 (kb_any _) (by decide) (by decide))), (mE_f hE (by decide)), (mZ_f hZ rfl), (eS_f hk0 (by decide) (by decide))⟩ (fun f_1428 ef_1428 hq => ?_)
                                    obtain ⟨hP, hD, hI, hE, hZ, hk0⟩ := hq
                                    refine lv_goto (tgt := 198) hx hb dX12_tells_348 (by decide) ?_
                                    exact ihlp794 (jj + 1) (cc + 1) f_1428 _ _ _ t1423 (by first | exact kn7_ml hmlp794 | (have w1 := hmlp794; omega)) hI hE hZ hk0 b1424 (by rw [(show f_1428 22 = t1425 from kn7_u1 ef_1428 rfl)]; exact hg1427) (hnx.elim (fun q => Or.inl ⟨q.1, q.2.2.symm⟩) (fun q => Or.inr ⟨q.1, by first | exact kn7_sl q.2 | (have w1 := q.2; omega)⟩)) (by rw [lastOf_s, ct_y (hhk.trans (by rw [← c1393]; decide +kernel)) (by have w1 := mt_1 hr1378 c1400; rw [kb_11 b1392] at w1; exact w1) (by rw [hv1]; rfl)]; show (t1423 : Int64).toInt = max 0 (min hi.toInt (1)); have w0 := bhi.1; have k0 : (0 : Int64).toInt = 0 := (by decide +kernel); have k1 : (1 : Int64).toInt = 1 := (by decide +kernel); have k9 : t1423.toInt = hi.toInt := (congrArg Int64.toInt et1423).trans (kt_i2l _); have k9t1411 : t1411.toInt = hi.toInt := (congrArg Int64.toInt et1411).trans (kt_i2l _); have k9t1423 : t1423.toInt = hi.toInt := (congrArg Int64.toInt et1423).trans (kt_i2l _); omega) (by first | exact Nat.succ_le_of_lt hcs.1 | (have w1 := hcs.1; omega)) hP hD hS (lv_sub hl [0, 5, 6, 7, 8, 9, 10] rfl)
                                · have h1429 := klc_nge (et1408 ▸ c1409)
                                  refine lv_lconst (v := 0) hx hb dX12_tells_315 (by decide) ?_
                                  refine lv_goto (tgt := 336) hx hb dX12_tells_316 (by decide) ?_
                                  refine lv_lstore (lv' := [(6, .long 0), (12, .int 1), (11, .int 0), (9, .long 1), (8, .int 4), (0, .ref o), (1, .int hd), (2, .int bd), (3, .int pt), (4, .int hi), (5, .int wo)]) hx hb dX12_tells_336 hl (by decide) rfl (fun ls hl => ?_)
                                  refine lv_aload_n hx hb dX12_tells_338 rfl (lv_at hl 5 rfl) ?_
                                  refine lv_dup hx hb dX12_tells_339 rfl ?_
                                  refine va_get (D := D) (ci := 12) (v := .int (u1371 22)) (C := RX12) (T := TX12) (N := 48) hx hb hg inC12 hown hK hP 0 rfl rfl 22 (by decide) (hg _ wt5_182) (fun _ h9 => h9) rfl dX12_tells_340 ?_
                                  refine k_top (z := gv1373) egv1373.symm ?_
                                  refine lv_iconst (v := 1) hx hb dX12_tells_343 (by decide) ?_
                                  refine lv_iadd hx hb dX12_tells_344 ?_
                                  refine lv_topi (fun t1430 et1430 => ?_)
                                  have b1431 : kb 1 t1430 2802 := kb_eq et1430 (kb_add b1375 kc_1 (by decide) (by decide))
                                  have qt1430 : t1430.toInt = gv1373.toInt + 1 := by rw [et1430]; exact kt_addc b1375 kc_1 (by decide) (by decide)
                                  have hg1432 : t1430.toInt = 400 * (t : Int) + ((jj + 1 : Nat) : Int) := by first | exact kn7_go qt1430 hg1374 | (rw [qt1430, hg1374]; omega)
                                  refine va_put (D := D) (ci := 12) (v := .int t1430) (ty := .int) (C := RX12) (T := TX12) (N := 48) hx hb hg inC12 tyX12 tyX12_ok nmX12 hown hK hP hD hS 0 rfl rfl 22 (by decide) (hg _ wt5_182) (fun _ h9 => h9) rfl (by decide +kernel) rfl rfl (Nat.le_of_ble_eq_true rfl) dX12_tells_345 (fun H locs hP hD hS => ?_)
                                  have hP : va_P D vwCl (mW K o r (upd u1371 22 t1430) a_778 g) H := hP
                                  have hD : va_D A (mW K o r (upd u1371 22 t1430) a_778 g) := hD
                                  refine k_gen (P := fun z => va_P D vwCl (mW K o r z a_778 g) H ∧ va_D A (mW K o r z a_778 g) ∧ (mI z a_778) ∧ (mE (XR []) f a z a_778) ∧ (mZ [22, 23, 24, 25] [26] f a z a_778) ∧ (eS z a_778 t false)) (upd u1371 22 t1430) ⟨hP, hD, (mI_f hI (fI_st hI.1 22 (kb_any _) (by decide) (by decide))), (mE_f hE (by decide)), (mZ_f hZ rfl), (eS_f hk0 (by decide) (by decide))⟩ (fun f_1433 ef_1433 hq => ?_)
                                  obtain ⟨hP, hD, hI, hE, hZ, hk0⟩ := hq
                                  refine lv_goto (tgt := 198) hx hb dX12_tells_348 (by decide) ?_
                                  exact ihlp794 (jj + 1) (cc + 1) f_1433 _ _ _ 0 (by first | exact kn7_ml hmlp794 | (have w1 := hmlp794; omega)) hI hE hZ hk0 (kbl_w kcl_0 (by decide) (by decide)) (by rw [(show f_1433 22 = t1430 from kn7_u1 ef_1433 rfl)]; exact hg1432) (hnx.elim (fun q => Or.inl ⟨q.1, q.2.2.symm⟩) (fun q => Or.inr ⟨q.1, by first | exact kn7_sl q.2 | (have w1 := q.2; omega)⟩)) (by rw [lastOf_s, ct_y (hhk.trans (by rw [← c1393]; decide +kernel)) (by have w1 := mt_1 hr1378 c1400; rw [kb_11 b1392] at w1; exact w1) (by rw [hv1]; rfl)]; show (0 : Int64).toInt = max 0 (min hi.toInt (1)); have w0 := bhi.1; have k0 : (0 : Int64).toInt = 0 := (by decide +kernel); have k1 : (1 : Int64).toInt = 1 := (by decide +kernel); omega) (by first | exact Nat.succ_le_of_lt hcs.1 | (have w1 := hcs.1; omega)) hP hD hS (lv_sub hl [0, 5, 6, 7, 8, 9, 10] rfl)
              · subst hj
                refine lv_aload_n hx hb dX12_tells_198 rfl (lv_at hl 1 rfl) ?_
                refine va_get (D := D) (ci := 12) (v := .int (F793 22)) (C := RX12) (T := TX12) (N := 48) hx hb hg inC12 hown hK hP 0 rfl rfl 22 (by decide) (hg _ wt5_182) (fun _ h9 => h9) rfl dX12_tells_199 ?_
                refine k_top (z := gv797) egv797.symm ?_
                refine lv_aload_n hx hb dX12_tells_202 rfl (lv_at hl 1 rfl) ?_
                refine va_get (D := D) (ci := 12) (v := .int (F793 23)) (C := RX12) (T := TX12) (N := 48) hx hb hg inC12 hown hK hP 0 rfl rfl 23 (by decide) (hg _ wt5_183) (fun _ h9 => h9) rfl dX12_tells_203 ?_
                refine lv_topi (fun t1434 et1434 => ?_)
                refine lv_icmp_ge (tgt := 351) hx hb dX12_tells_206 (by decide) (fun c1435 => ?_) (fun c1435 => ?_)
                · exact absurd (kc_le c1435) (by have w1 := congrArg Int32.toInt et1434.symm; have w2 := hk0.2.1; have w3 := hg798; have w4 := mC_lS hk0 (ne_0 (tq_y hp2 (x := 4) (y := 2007) (by decide +kernel) (by decide +kernel) h1) (by decide +kernel)); omega)
                · have h1436 := (kc_nle c1435)
                  have b1437 : kb 1 t1434 2147483647 := kr_lt2 h1436 b1345 (kb_any t1434) (by decide)
                  refine lv_aload_n hx hb dX12_tells_209 rfl (lv_at hl 1 rfl) ?_
                  refine lv_aload_n hx hb dX12_tells_210 rfl (lv_at hl 1 rfl) ?_
                  refine va_get (D := D) (ci := 12) (v := .int (F793 22)) (C := RX12) (T := TX12) (N := 48) hx hb hg inC12 hown hK hP 0 rfl rfl 22 (by decide) (hg _ wt5_182) (fun _ h9 => h9) rfl dX12_tells_211 ?_
                  refine k_top (z := gv797) egv797.symm ?_
                  refine kI.callV (As := [.int gv797]) (rest := []) ⟨hx, hb, hml, hown, hg⟩ (m_codeAt l o r F793 a_778 g hI gv797  t (i) false hk0 hg798) (cwV 1 hg (kgV wt7_47 wt7_49 wp5_8 wt1_14 wt7_50) rfl rfl rfl (by decide +kernel) ⟨by decide, by decide⟩) hK hP hD hS hA mIs [] rfl (wr := []) rfl rfl rfl (fun i h => by cases h) 0 12 rfl rfl rfl hl.1 rfl (Nat.le_of_ble_eq_true rfl) dX12_tells_214 ⟨Nat.le_refl _, Nat.le_refl _⟩ (fun v1439 u1440 H locs hw1438 hP hD hS => ?_)
                  have hP : va_P D vwCl (mW K o r F793 a_778 g) H := hP
                  have hD : va_D A (mW K o r F793 a_778 g) := hD
                  refine k_top (z := 4) (hw1438.2.trans (tq_y hp2 (x := 4) (y := 2007) (by decide +kernel) (by decide +kernel) h1)) ?_
                  refine lv_istore (lv' := [(8, .int 4), (6, .long y792), (0, .ref o), (1, .int hd), (2, .int bd), (3, .int pt), (4, .int hi), (5, .int wo)]) hx hb dX12_tells_217 hl (by decide) rfl (fun ls hl => ?_)
                  refine lv_aload_n hx hb dX12_tells_219 rfl (lv_at hl 2 rfl) ?_
                  refine lv_iconst (v := 0) hx hb dX12_tells_220 (by decide) ?_
                  refine va_put (D := D) (ci := 12) (v := .int 0) (ty := .boolean) (C := RX12) (T := TX12) (N := 48) hx hb hg inC12 tyX12 tyX12_ok nmX12 hown hK hP hD hS 0 rfl rfl 24 (by decide) (hg _ wt5_184) (fun _ h9 => h9) rfl (by decide +kernel) rfl rfl (Nat.le_of_ble_eq_true rfl) dX12_tells_221 (fun H locs hP hD hS => ?_)
                  have hP : va_P D vwCl (mW K o r (upd F793 24 0) a_778 g) H := hP
                  have hD : va_D A (mW K o r (upd F793 24 0) a_778 g) := hD
                  refine k_gen (P := fun z => va_P D vwCl (mW K o r z a_778 g) H ∧ va_D A (mW K o r z a_778 g) ∧ (mI z a_778) ∧ (mE (XR []) f a z a_778) ∧ (mZ [22, 23, 24, 25] [26] f a z a_778) ∧ (eS z a_778 t false)) (upd F793 24 0) ⟨hP, hD, (mI_f hI (fI_st hI.1 24 kc_0 (by decide) (by decide))), (mE_f hE (by decide)), (mZ_f hZ rfl), (eS_f hk0 (by decide) (by decide))⟩ (fun f_1441 ef_1441 hq => ?_)
                  obtain ⟨hP, hD, hI, hE, hZ, hk0⟩ := hq
                  refine lv_aload_n hx hb dX12_tells_224 rfl (lv_at hl 2 rfl) ?_
                  refine lv_dup hx hb dX12_tells_225 rfl ?_
                  refine va_get (D := D) (ci := 12) (v := .int (f_1441 22)) (C := RX12) (T := TX12) (N := 48) hx hb hg inC12 hown hK hP 0 rfl rfl 22 (by decide) (hg _ wt5_182) (fun _ h9 => h9) rfl dX12_tells_226 ?_
                  refine k_top (z := gv797) ((show f_1441 22 = F793 22 from kn7_u1 ef_1441 rfl).trans egv797.symm) ?_
                  refine lv_iconst (v := 1) hx hb dX12_tells_229 (by decide) ?_
                  refine lv_iadd hx hb dX12_tells_230 ?_
                  refine lv_topi (fun t1442 et1442 => ?_)
                  have b1443 : kb 1 t1442 2800 := kb_eq et1442 (kb_add b1345 kc_1 (by decide) (by decide))
                  have qt1442 : t1442.toInt = gv797.toInt + 1 := by rw [et1442]; exact kt_addc b1345 kc_1 (by decide) (by decide)
                  have hg1444 : t1442.toInt = 400 * (t : Int) + ((i + 1 : Nat) : Int) := by first | exact kn7_go qt1442 hg798 | (rw [qt1442, hg798]; omega)
                  have b1445 : kb 0 t1442 2801 := kb_go1 hk0 (by have w1 := hk0.2.2.2.2; omega) hg1444
                  refine va_put (D := D) (ci := 12) (v := .int t1442) (ty := .int) (C := RX12) (T := TX12) (N := 48) hx hb hg inC12 tyX12 tyX12_ok nmX12 hown hK hP hD hS 0 rfl rfl 22 (by decide) (hg _ wt5_182) (fun _ h9 => h9) rfl (by decide +kernel) rfl rfl (Nat.le_of_ble_eq_true rfl) dX12_tells_231 (fun H locs hP hD hS => ?_)
                  have hP : va_P D vwCl (mW K o r (upd f_1441 22 t1442) a_778 g) H := hP
                  have hD : va_D A (mW K o r (upd f_1441 22 t1442) a_778 g) := hD
                  refine k_gen (P := fun z => va_P D vwCl (mW K o r z a_778 g) H ∧ va_D A (mW K o r z a_778 g) ∧ (mI z a_778) ∧ (mE (XR []) f a z a_778) ∧ (mZ [22, 23, 24, 25] [26] f a z a_778) ∧ (eS z a_778 t false)) (upd f_1441 22 t1442) ⟨hP, hD, (mI_f hI (fI_st hI.1 22 (kb_any _) (by decide) (by decide))), (mE_f hE (by decide)), (mZ_f hZ rfl), (eS_f hk0 (by decide) (by decide))⟩ (fun f_1446 ef_1446 hq => ?_)
                  obtain ⟨hP, hD, hI, hE, hZ, hk0⟩ := hq
                  refine lv_iload hx hb dX12_tells_234 (lv_at hl 0 rfl) ?_
                  refine lv_iconst (v := 4) hx hb dX12_tells_236 (by decide) ?_
                  refine lv_icmp_ne (tgt := 244) hx hb dX12_tells_237 (by decide) (fun c1447 => ?_) (fun c1447 => ?_)
                  · exact kb_nsame c1447 kc_4 kc_4
                  · refine lv_lconst (v := 1) hx hb dX12_tells_240 (by decide) ?_
                    refine lv_goto (tgt := 249) hx hb dX12_tells_241 (by decide) ?_
                    refine lv_lstore (lv' := [(9, .long 1), (8, .int 4), (6, .long y792), (0, .ref o), (1, .int hd), (2, .int bd), (3, .int pt), (4, .int hi), (5, .int wo)]) hx hb dX12_tells_249 hl (by decide) rfl (fun ls hl => ?_)
                    refine lv_aload_n hx hb dX12_tells_251 rfl (lv_at hl 3 rfl) ?_
                    refine va_get (D := D) (ci := 12) (v := .int (f_1446 24)) (C := RX12) (T := TX12) (N := 48) hx hb hg inC12 hown hK hP 0 rfl rfl 24 (by decide) (hg _ wt5_184) (fun _ h9 => h9) rfl dX12_tells_252 ?_
                    refine k_top (z := 0) ((show f_1446 24 = f_1441 24 from kn7_u1 ef_1446 rfl).trans (show f_1441 24 = 0 from kn7_u1 ef_1441 rfl)) ?_
                    refine lv_istore (lv' := [(11, .int 0), (9, .long 1), (8, .int 4), (6, .long y792), (0, .ref o), (1, .int hd), (2, .int bd), (3, .int pt), (4, .int hi), (5, .int wo)]) hx hb dX12_tells_255 hl (by decide) rfl (fun ls hl => ?_)
                    refine lv_aload_n hx hb dX12_tells_257 rfl (lv_at hl 4 rfl) ?_
                    refine lv_iconst (v := 0) hx hb dX12_tells_258 (by decide) ?_
                    refine va_put (D := D) (ci := 12) (v := .int 0) (ty := .boolean) (C := RX12) (T := TX12) (N := 48) hx hb hg inC12 tyX12 tyX12_ok nmX12 hown hK hP hD hS 0 rfl rfl 24 (by decide) (hg _ wt5_184) (fun _ h9 => h9) rfl (by decide +kernel) rfl rfl (Nat.le_of_ble_eq_true rfl) dX12_tells_259 (fun H locs hP hD hS => ?_)
                    have hP : va_P D vwCl (mW K o r (upd f_1446 24 0) a_778 g) H := hP
                    have hD : va_D A (mW K o r (upd f_1446 24 0) a_778 g) := hD
                    refine k_gen (P := fun z => va_P D vwCl (mW K o r z a_778 g) H ∧ va_D A (mW K o r z a_778 g) ∧ (mI z a_778) ∧ (mE (XR []) f a z a_778) ∧ (mZ [22, 23, 24, 25] [26] f a z a_778) ∧ (eS z a_778 t false)) (upd f_1446 24 0) ⟨hP, hD, (mI_f hI (fI_st hI.1 24 kc_0 (by decide) (by decide))), (mE_f hE (by decide)), (mZ_f hZ rfl), (eS_f hk0 (by decide) (by decide))⟩ (fun f_1448 ef_1448 hq => ?_)
                    obtain ⟨hP, hD, hI, hE, hZ, hk0⟩ := hq
                    refine lv_aload_n hx hb dX12_tells_262 rfl (lv_at hl 4 rfl) ?_
                    refine lv_iconst (v := 5) hx hb dX12_tells_263 (by decide) ?_
                    refine kI.callV (As := [.int 5]) (rest := []) ⟨hx, hb, hml, hown, hg⟩ (m_passes0 l o r f_1448 a_778 g hI 5 (kb_w kc_5 (by decide) (by decide)) t (i + 1) false hk0 (by rw [((show f_1448 22 = f_1446 22 from kn7_u1 ef_1448 rfl).trans (show f_1446 22 = t1442 from kn7_u1 ef_1446 rfl))]; exact hg1444)) (cwV 1 hg (kgV wt7_63 wt7_65 wp5_12 wt1_14 wt7_66) rfl rfl rfl (by decide +kernel) ⟨by decide, by decide⟩) hK hP hD hS hA mIs [] rfl (wr := []) rfl rfl rfl (fun i h => by cases h) 0 12 rfl rfl rfl hl.1 rfl (Nat.le_of_ble_eq_true rfl) dX12_tells_264 ⟨Nat.le_refl _, Nat.le_refl _⟩ (fun v1450 u1451 H locs hw1449 hP hD hS => ?_)
                    have hP : va_P D vwCl (mW K o r u1451 a_778 g) H := hP
                    have hD : va_D A (mW K o r u1451 a_778 g) := hD
                    have hI : mI u1451 a_778 := hw1449.2.1
                    have eE1452 : fE [22] f_1448 u1451 := hw1449.2.2.1
                    have hE : mE (XR []) f a u1451 a_778 := mE_fE hE eE1452 (by decide)
                    have hZ : mZ [22, 23, 24, 25] [26] f a u1451 a_778 := mZ_fE hZ (fE_w (by decide) eE1452)
                    have hk0 : eS u1451 a_778 t false := eS_fE eE1452 hk0 (by decide) (by decide)
                    have hz1453 := pass_n hw1449.2.2.2 (tq_n hp2 (x := 5) (y := 2003) (by decide +kernel) (by decide +kernel) h2)
                    refine k_top (z := 0) hz1453.1 ?_
                    obtain ⟨gv1454, egv1454⟩ : ∃ z : Int32, z = u1451 22 := ⟨_, rfl⟩
                    have hg1455 : gv1454.toInt = 400 * (t : Int) + ((i + 1 : Nat) : Int) := by rw [egv1454]; exact hz1453.2
                    have b1456 : kb 0 gv1454 2801 := kb_go1 hk0 (by have w1 := hk0.2.2.2.2; omega) hg1455
                    refine lv_if_eq (tgt := 278) hx hb dX12_tells_267 (by decide) (fun c1457 => ?_) (fun c1457 => ?_)
                    · refine lv_iconst (v := 1) hx hb dX12_tells_278 (by decide) ?_
                      refine lv_goto (tgt := 283) hx hb dX12_tells_279 (by decide) ?_
                      refine lv_istore (lv' := [(12, .int 1), (11, .int 0), (9, .long 1), (8, .int 4), (6, .long y792), (0, .ref o), (1, .int hd), (2, .int bd), (3, .int pt), (4, .int hi), (5, .int wo)]) hx hb dX12_tells_283 hl (by decide) rfl (fun ls hl => ?_)
                      refine lv_iload hx hb dX12_tells_285 (lv_at hl 3 rfl) ?_
                      refine lv_iload_n hx hb dX12_tells_287 rfl (lv_at hl 6 rfl) ?_
                      refine lv_icmp_ne (tgt := 338) hx hb dX12_tells_288 (by decide) (fun c1458 => ?_) (fun c1458 => ?_)
                      · refine lv_aload_n hx hb dX12_tells_338 rfl (lv_at hl 5 rfl) ?_
                        refine lv_dup hx hb dX12_tells_339 rfl ?_
                        refine va_get (D := D) (ci := 12) (v := .int (u1451 22)) (C := RX12) (T := TX12) (N := 48) hx hb hg inC12 hown hK hP 0 rfl rfl 22 (by decide) (hg _ wt5_182) (fun _ h9 => h9) rfl dX12_tells_340 ?_
                        refine k_top (z := gv1454) egv1454.symm ?_
                        refine lv_iconst (v := 1) hx hb dX12_tells_343 (by decide) ?_
                        refine lv_iadd hx hb dX12_tells_344 ?_
                        refine lv_topi (fun t1459 et1459 => ?_)
                        have b1460 : kb 1 t1459 2802 := kb_eq et1459 (kb_add b1456 kc_1 (by decide) (by decide))
                        have qt1459 : t1459.toInt = gv1454.toInt + 1 := by rw [et1459]; exact kt_addc b1456 kc_1 (by decide) (by decide)
                        have hg1461 : t1459.toInt = 400 * (t : Int) + ((i + 1 + 1 : Nat) : Int) := by first | exact kn7_go qt1459 hg1455 | (rw [qt1459, hg1455]; omega)
                        refine va_put (D := D) (ci := 12) (v := .int t1459) (ty := .int) (C := RX12) (T := TX12) (N := 48) hx hb hg inC12 tyX12 tyX12_ok nmX12 hown hK hP hD hS 0 rfl rfl 22 (by decide) (hg _ wt5_182) (fun _ h9 => h9) rfl (by decide +kernel) rfl rfl (Nat.le_of_ble_eq_true rfl) dX12_tells_345 (fun H locs hP hD hS => ?_)
                        have hP : va_P D vwCl (mW K o r (upd u1451 22 t1459) a_778 g) H := hP
                        have hD : va_D A (mW K o r (upd u1451 22 t1459) a_778 g) := hD
                        refine k_gen (P := fun z => va_P D vwCl (mW K o r z a_778 g) H ∧ va_D A (mW K o r z a_778 g) ∧ (mI z a_778) ∧ (mE (XR []) f a z a_778) ∧ (mZ [22, 23, 24, 25] [26] f a z a_778) ∧ (eS z a_778 t false)) (upd u1451 22 t1459) ⟨hP, hD, (mI_f hI (fI_st hI.1 22 (kb_any _) (by decide) (by decide))), (mE_f hE (by decide)), (mZ_f hZ rfl), (eS_f hk0 (by decide) (by decide))⟩ (fun f_1462 ef_1462 hq => ?_)
                        obtain ⟨hP, hD, hI, hE, hZ, hk0⟩ := hq
                        refine lv_goto (tgt := 198) hx hb dX12_tells_348 (by decide) ?_
                        exact ihlp794 (i + 1 + 1) (cc + 1) f_1462 _ _ _ y792 (by first | exact kn7_ml hmlp794 | (have w1 := hmlp794; omega)) hI hE hZ hk0 b796 (by rw [(show f_1462 22 = t1459 from kn7_u1 ef_1462 rfl)]; exact hg1461) (hnx.elim (fun q => Or.inl ⟨q.1, q.2.2.symm⟩) (fun q => Or.inr ⟨q.1, by first | exact kn7_sl q.2 | (have w1 := q.2; omega)⟩)) (by rw [lastOf_s, ct_n (fun q => c1458 (Int32.toInt_inj.mp (by first | exact (kHd_j (hhk.symm.trans q) bhd).trans (by decide +kernel) | (have w1 := kHd_j (hhk.symm.trans q) bhd; have w2 : (4 : Int32).toInt = 4 := (by decide +kernel); omega))))]; exact htd) (by first | exact Nat.succ_le_of_lt hcs.1 | (have w1 := hcs.1; omega)) hP hD hS (lv_sub hl [4, 5, 6, 7, 8, 9, 10] rfl)
                      · have b1463 : kb 4 hd 4 := kb_eq c1458.symm kc_4
                        refine lv_iload hx hb dX12_tells_291 (lv_at hl 0 rfl) ?_
                        refine lv_if_eq (tgt := 338) hx hb dX12_tells_293 (by decide) (fun c1464 => ?_) (fun c1464 => ?_)
                        · exact kb_dj c1464 kc_1 kc_0 (by decide)
                        · refine lv_aload_n hx hb dX12_tells_296 rfl (lv_at hl 5 rfl) ?_
                          refine va_get (D := D) (ci := 12) (v := .int (u1451 24)) (C := RX12) (T := TX12) (N := 48) hx hb hg inC12 hown hK hP 0 rfl rfl 24 (by decide) (hg _ wt5_184) (fun _ h9 => h9) rfl dX12_tells_297 ?_
                          refine k_top (z := 0) ((eE1452 24 (by decide)).trans (show f_1448 24 = 0 from kn7_u1 ef_1448 rfl)) ?_
                          refine lv_if_ne (tgt := 338) hx hb dX12_tells_300 (by decide) (fun c1465 => ?_) (fun c1465 => ?_)
                          · exact kb_nsame c1465 kc_0 kc_0
                          · refine lv_iload hx hb dX12_tells_303 (lv_at hl 1 rfl) ?_
                            refine lv_if_ne (tgt := 338) hx hb dX12_tells_305 (by decide) (fun c1466 => ?_) (fun c1466 => ?_)
                            · exact kb_nsame c1466 kc_0 kc_0
                            · refine lv_lload hx hb dX12_tells_308 (lv_at hl 2 rfl) ?_
                              refine lv_lconst (v := 0) hx hb dX12_tells_310 (by decide) ?_
                              refine W.lcmp hx hb dX12_tells_311 ?_
                              refine lv_topi (fun t1467 et1467 => ?_)
                              refine lv_if_ge (tgt := 319) hx hb dX12_tells_312 (by decide) (fun c1468 => ?_) (fun c1468 => ?_)
                              · have h1469 := klc_ge (et1467 ▸ c1468)
                                refine lv_lload hx hb dX12_tells_319 (lv_at hl 2 rfl) ?_
                                refine lv_iload hx hb dX12_tells_321 (lv_at hl 9 rfl) ?_
                                refine lv_i2l hx hb dX12_tells_323 rfl ?_
                                refine lv_topl (fun t1470 et1470 => ?_)
                                have b1471 : kbl 0 t1470 20 := kbl_eq et1470 (kbl_i2l bhi)
                                refine W.lcmp hx hb dX12_tells_324 ?_
                                refine lv_topi (fun t1472 et1472 => ?_)
                                refine lv_if_le (tgt := 334) hx hb dX12_tells_325 (by decide) (fun c1473 => ?_) (fun c1473 => ?_)
                                · have h1474 := klc_le (et1472 ▸ c1473)
                                  have b1475 : kbl 1 t1470 20 := klr_le2 h1474 kcl_1 b1471
                                  refine lv_lload hx hb dX12_tells_334 (lv_at hl 2 rfl) ?_
                                  refine lv_lstore (lv' := [(6, .long 1), (12, .int 1), (11, .int 0), (9, .long 1), (8, .int 4), (0, .ref o), (1, .int hd), (2, .int bd), (3, .int pt), (4, .int hi), (5, .int wo)]) hx hb dX12_tells_336 hl (by decide) rfl (fun ls hl => ?_)
                                  refine lv_aload_n hx hb dX12_tells_338 rfl (lv_at hl 5 rfl) ?_
                                  refine lv_dup hx hb dX12_tells_339 rfl ?_
                                  refine va_get (D := D) (ci := 12) (v := .int (u1451 22)) (C := RX12) (T := TX12) (N := 48) hx hb hg inC12 hown hK hP 0 rfl rfl 22 (by decide) (hg _ wt5_182) (fun _ h9 => h9) rfl dX12_tells_340 ?_
                                  refine k_top (z := gv1454) egv1454.symm ?_
                                  refine lv_iconst (v := 1) hx hb dX12_tells_343 (by decide) ?_
                                  refine lv_iadd hx hb dX12_tells_344 ?_
                                  refine lv_topi (fun t1476 et1476 => ?_)
                                  have b1477 : kb 1 t1476 2802 := kb_eq et1476 (kb_add b1456 kc_1 (by decide) (by decide))
                                  have qt1476 : t1476.toInt = gv1454.toInt + 1 := by rw [et1476]; exact kt_addc b1456 kc_1 (by decide) (by decide)
                                  have hg1478 : t1476.toInt = 400 * (t : Int) + ((i + 1 + 1 : Nat) : Int) := by first | exact kn7_go qt1476 hg1455 | (rw [qt1476, hg1455]; omega)
                                  refine va_put (D := D) (ci := 12) (v := .int t1476) (ty := .int) (C := RX12) (T := TX12) (N := 48) hx hb hg inC12 tyX12 tyX12_ok nmX12 hown hK hP hD hS 0 rfl rfl 22 (by decide) (hg _ wt5_182) (fun _ h9 => h9) rfl (by decide +kernel) rfl rfl (Nat.le_of_ble_eq_true rfl) dX12_tells_345 (fun H locs hP hD hS => ?_)
                                  have hP : va_P D vwCl (mW K o r (upd u1451 22 t1476) a_778 g) H := hP
                                  have hD : va_D A (mW K o r (upd u1451 22 t1476) a_778 g) := hD
                                  refine k_gen (P := fun z => va_P D vwCl (mW K o r z a_778 g) H ∧ va_D A (mW K o r z a_778 g) ∧ (mI z a_778) ∧ (mE (XR []) f a z a_778) ∧ (mZ [22, 23, 24, 25] [26] f a z a_778) ∧ (eS z a_778 t false)) (upd u1451 22 t1476) ⟨hP, hD, (mI_f hI (fI_st hI.1 22 (kb_any _) (by decide) (by decide))), (mE_f hE (by decide)), (mZ_f hZ rfl), (eS_f hk0 (by decide) (by decide))⟩ (fun f_1479 ef_1479 hq => ?_)
                                  obtain ⟨hP, hD, hI, hE, hZ, hk0⟩ := hq
                                  refine lv_goto (tgt := 198) hx hb dX12_tells_348 (by decide) ?_
                                  exact ihlp794 (i + 1 + 1) (cc + 1) f_1479 _ _ _ 1 (by first | exact kn7_ml hmlp794 | (have w1 := hmlp794; omega)) hI hE hZ hk0 (kbl_w kcl_1 (by decide) (by decide)) (by rw [(show f_1479 22 = t1476 from kn7_u1 ef_1479 rfl)]; exact hg1478) (hnx.elim (fun q => Or.inl ⟨q.1, q.2.2.symm⟩) (fun q => Or.inr ⟨q.1, by first | exact kn7_sl q.2 | (have w1 := q.2; omega)⟩)) (by rw [lastOf_s, ct_y (hhk.trans (by rw [← c1458]; decide +kernel)) (by rw [hv3]; rfl) (by rw [hv1]; rfl)]; show (1 : Int64).toInt = max 0 (min hi.toInt (1)); have w0 := bhi.1; have k0 : (0 : Int64).toInt = 0 := (by decide +kernel); have k1 : (1 : Int64).toInt = 1 := (by decide +kernel); have k9t1470 : t1470.toInt = hi.toInt := (congrArg Int64.toInt et1470).trans (kt_i2l _); omega) (by first | exact Nat.succ_le_of_lt hcs.1 | (have w1 := hcs.1; omega)) hP hD hS (lv_sub hl [0, 5, 6, 7, 8, 9, 10] rfl)
                                · have h1480 := klc_nle (et1472 ▸ c1473)
                                  have b1481 : kbl 0 t1470 0 := klr_lt1 h1480 b1471 kcl_1 (by decide)
                                  refine lv_iload hx hb dX12_tells_328 (lv_at hl 9 rfl) ?_
                                  refine lv_i2l hx hb dX12_tells_330 rfl ?_
                                  refine lv_topl (fun t1482 et1482 => ?_)
                                  have b1483 : kbl 0 t1482 20 := kbl_eq et1482 (kbl_i2l bhi)
                                  refine lv_goto (tgt := 336) hx hb dX12_tells_331 (by decide) ?_
                                  refine lv_lstore (lv' := [(6, .long t1482), (12, .int 1), (11, .int 0), (9, .long 1), (8, .int 4), (0, .ref o), (1, .int hd), (2, .int bd), (3, .int pt), (4, .int hi), (5, .int wo)]) hx hb dX12_tells_336 hl (by decide) rfl (fun ls hl => ?_)
                                  refine lv_aload_n hx hb dX12_tells_338 rfl (lv_at hl 5 rfl) ?_
                                  refine lv_dup hx hb dX12_tells_339 rfl ?_
                                  refine va_get (D := D) (ci := 12) (v := .int (u1451 22)) (C := RX12) (T := TX12) (N := 48) hx hb hg inC12 hown hK hP 0 rfl rfl 22 (by decide) (hg _ wt5_182) (fun _ h9 => h9) rfl dX12_tells_340 ?_
                                  refine k_top (z := gv1454) egv1454.symm ?_
                                  refine lv_iconst (v := 1) hx hb dX12_tells_343 (by decide) ?_
                                  refine lv_iadd hx hb dX12_tells_344 ?_
                                  refine lv_topi (fun t1484 et1484 => ?_)
                                  have b1485 : kb 1 t1484 2802 := kb_eq et1484 (kb_add b1456 kc_1 (by decide) (by decide))
                                  have qt1484 : t1484.toInt = gv1454.toInt + 1 := by rw [et1484]; exact kt_addc b1456 kc_1 (by decide) (by decide)
                                  have hg1486 : t1484.toInt = 400 * (t : Int) + ((i + 1 + 1 : Nat) : Int) := by first | exact kn7_go qt1484 hg1455 | (rw [qt1484, hg1455]; omega)
                                  refine va_put (D := D) (ci := 12) (v := .int t1484) (ty := .int) (C := RX12) (T := TX12) (N := 48) hx hb hg inC12 tyX12 tyX12_ok nmX12 hown hK hP hD hS 0 rfl rfl 22 (by decide) (hg _ wt5_182) (fun _ h9 => h9) rfl (by decide +kernel) rfl rfl (Nat.le_of_ble_eq_true rfl) dX12_tells_345 (fun H locs hP hD hS => ?_)
                                  have hP : va_P D vwCl (mW K o r (upd u1451 22 t1484) a_778 g) H := hP
                                  have hD : va_D A (mW K o r (upd u1451 22 t1484) a_778 g) := hD
                                  refine k_gen (P := fun z => va_P D vwCl (mW K o r z a_778 g) H ∧ va_D A (mW K o r z a_778 g) ∧ (mI z a_778) ∧ (mE (XR []) f a z a_778) ∧ (mZ [22, 23, 24, 25] [26] f a z a_778) ∧ (eS z a_778 t false)) (upd u1451 22 t1484) ⟨hP, hD, (mI_f hI (fI_st hI.1 22 (kb_any _) (by decide) (by decide))), (mE_f hE (by decide)), (mZ_f hZ rfl), (eS_f hk0 (by decide) (by decide))⟩ (fun f_1487 ef_1487 hq => ?_)
                                  obtain ⟨hP, hD, hI, hE, hZ, hk0⟩ := hq
                                  refine lv_goto (tgt := 198) hx hb dX12_tells_348 (by decide) ?_
                                  exact ihlp794 (i + 1 + 1) (cc + 1) f_1487 _ _ _ t1482 (by first | exact kn7_ml hmlp794 | (have w1 := hmlp794; omega)) hI hE hZ hk0 b1483 (by rw [(show f_1487 22 = t1484 from kn7_u1 ef_1487 rfl)]; exact hg1486) (hnx.elim (fun q => Or.inl ⟨q.1, q.2.2.symm⟩) (fun q => Or.inr ⟨q.1, by first | exact kn7_sl q.2 | (have w1 := q.2; omega)⟩)) (by rw [lastOf_s, ct_y (hhk.trans (by rw [← c1458]; decide +kernel)) (by rw [hv3]; rfl) (by rw [hv1]; rfl)]; show (t1482 : Int64).toInt = max 0 (min hi.toInt (1)); have w0 := bhi.1; have k0 : (0 : Int64).toInt = 0 := (by decide +kernel); have k1 : (1 : Int64).toInt = 1 := (by decide +kernel); have k9 : t1482.toInt = hi.toInt := (congrArg Int64.toInt et1482).trans (kt_i2l _); have k9t1470 : t1470.toInt = hi.toInt := (congrArg Int64.toInt et1470).trans (kt_i2l _); have k9t1482 : t1482.toInt = hi.toInt := (congrArg Int64.toInt et1482).trans (kt_i2l _); omega) (by first | exact Nat.succ_le_of_lt hcs.1 | (have w1 := hcs.1; omega)) hP hD hS (lv_sub hl [0, 5, 6, 7, 8, 9, 10] rfl)
                              · have h1488 := klc_nge (et1467 ▸ c1468)
                                refine lv_lconst (v := 0) hx hb dX12_tells_315 (by decide) ?_
                                refine lv_goto (tgt := 336) hx hb dX12_tells_316 (by decide) ?_
                                refine lv_lstore (lv' := [(6, .long 0), (12, .int 1), (11, .int 0), (9, .long 1), (8, .int 4), (0, .ref o), (1, .int hd), (2, .int bd), (3, .int pt), (4, .int hi), (5, .int wo)]) hx hb dX12_tells_336 hl (by decide) rfl (fun ls hl => ?_)
                                refine lv_aload_n hx hb dX12_tells_338 rfl (lv_at hl 5 rfl) ?_
                                refine lv_dup hx hb dX12_tells_339 rfl ?_
                                refine va_get (D := D) (ci := 12) (v := .int (u1451 22)) (C := RX12) (T := TX12) (N := 48) hx hb hg inC12 hown hK hP 0 rfl rfl 22 (by decide) (hg _ wt5_182) (fun _ h9 => h9) rfl dX12_tells_340 ?_
                                refine k_top (z := gv1454) egv1454.symm ?_
                                refine lv_iconst (v := 1) hx hb dX12_tells_343 (by decide) ?_
                                refine lv_iadd hx hb dX12_tells_344 ?_
                                refine lv_topi (fun t1489 et1489 => ?_)
                                have b1490 : kb 1 t1489 2802 := kb_eq et1489 (kb_add b1456 kc_1 (by decide) (by decide))
                                have qt1489 : t1489.toInt = gv1454.toInt + 1 := by rw [et1489]; exact kt_addc b1456 kc_1 (by decide) (by decide)
                                have hg1491 : t1489.toInt = 400 * (t : Int) + ((i + 1 + 1 : Nat) : Int) := by first | exact kn7_go qt1489 hg1455 | (rw [qt1489, hg1455]; omega)
                                refine va_put (D := D) (ci := 12) (v := .int t1489) (ty := .int) (C := RX12) (T := TX12) (N := 48) hx hb hg inC12 tyX12 tyX12_ok nmX12 hown hK hP hD hS 0 rfl rfl 22 (by decide) (hg _ wt5_182) (fun _ h9 => h9) rfl (by decide +kernel) rfl rfl (Nat.le_of_ble_eq_true rfl) dX12_tells_345 (fun H locs hP hD hS => ?_)
                                have hP : va_P D vwCl (mW K o r (upd u1451 22 t1489) a_778 g) H := hP
                                have hD : va_D A (mW K o r (upd u1451 22 t1489) a_778 g) := hD
                                refine k_gen (P := fun z => va_P D vwCl (mW K o r z a_778 g) H ∧ va_D A (mW K o r z a_778 g) ∧ (mI z a_778) ∧ (mE (XR []) f a z a_778) ∧ (mZ [22, 23, 24, 25] [26] f a z a_778) ∧ (eS z a_778 t false)) (upd u1451 22 t1489) ⟨hP, hD, (mI_f hI (fI_st hI.1 22 (kb_any _) (by decide) (by decide))), (mE_f hE (by decide)), (mZ_f hZ rfl), (eS_f hk0 (by decide) (by decide))⟩ (fun f_1492 ef_1492 hq => ?_)
                                obtain ⟨hP, hD, hI, hE, hZ, hk0⟩ := hq
                                refine lv_goto (tgt := 198) hx hb dX12_tells_348 (by decide) ?_
                                exact ihlp794 (i + 1 + 1) (cc + 1) f_1492 _ _ _ 0 (by first | exact kn7_ml hmlp794 | (have w1 := hmlp794; omega)) hI hE hZ hk0 (kbl_w kcl_0 (by decide) (by decide)) (by rw [(show f_1492 22 = t1489 from kn7_u1 ef_1492 rfl)]; exact hg1491) (hnx.elim (fun q => Or.inl ⟨q.1, q.2.2.symm⟩) (fun q => Or.inr ⟨q.1, by first | exact kn7_sl q.2 | (have w1 := q.2; omega)⟩)) (by rw [lastOf_s, ct_y (hhk.trans (by rw [← c1458]; decide +kernel)) (by rw [hv3]; rfl) (by rw [hv1]; rfl)]; show (0 : Int64).toInt = max 0 (min hi.toInt (1)); have w0 := bhi.1; have k0 : (0 : Int64).toInt = 0 := (by decide +kernel); have k1 : (1 : Int64).toInt = 1 := (by decide +kernel); omega) (by first | exact Nat.succ_le_of_lt hcs.1 | (have w1 := hcs.1; omega)) hP hD hS (lv_sub hl [0, 5, 6, 7, 8, 9, 10] rfl)
                    · exact kb_nsame c1457 kc_0 kc_0
          · refine lv_aload_n hx hb dX12_tells_198 rfl (lv_at hl 1 rfl) ?_
            refine va_get (D := D) (ci := 12) (v := .int (F793 22)) (C := RX12) (T := TX12) (N := 48) hx hb hg inC12 hown hK hP 0 rfl rfl 22 (by decide) (hg _ wt5_182) (fun _ h9 => h9) rfl dX12_tells_199 ?_
            refine k_top (z := gv797) egv797.symm ?_
            refine lv_aload_n hx hb dX12_tells_202 rfl (lv_at hl 1 rfl) ?_
            refine va_get (D := D) (ci := 12) (v := .int (F793 23)) (C := RX12) (T := TX12) (N := 48) hx hb hg inC12 hown hK hP 0 rfl rfl 23 (by decide) (hg _ wt5_183) (fun _ h9 => h9) rfl dX12_tells_203 ?_
            refine lv_topi (fun t1493 et1493 => ?_)
            refine lv_icmp_ge (tgt := 351) hx hb dX12_tells_206 (by decide) (fun c1494 => ?_) (fun c1494 => ?_)
            · have h1495 := (kc_le c1494)
              refine lv_lload hx hb dX12_tells_351 (lv_at hl 0 rfl) ?_
              refine lv_l2i hx hb dX12_tells_353 rfl ?_
              refine lv_topi (fun t1496 et1496 => ?_)
              have b1497 : kb 0 t1496 20 := kb_eq et1496 (kb_l2i b796 (by decide) (by decide))
              exact kI_ret (v := t1496) hx hb hr hlocks rfl hK hS dX12_tells_354 (F793, a_778, g) hP hD ⟨b1497, hI, hE, (by unfold tlF; rw [if_neg (fun q => c3 (et1.trans q))]; show _ = lastOf _ _ _; rw [et1496, kt_l2i (by have w1 := (b796).1; omega) (by have w1 := (b796).2; omega)]; rw [← hcs.1]; exact htd), hZ⟩
            · exact absurd (kc_nle c1494) (by have w1 := congrArg Int32.toInt et1493.symm; have w2 := hk0.2.1; have w3 := hg798; have w4 := hcs.2; omega)
      exact lp794 (((DD (a 2 106).toInt.toNat).1 + 1)) 0 0 f_791 _ _ _ t780 (by omega) hI hE hZ hk0 b781 (by rw [((show f_791 22 = f_784 22 from kn7_u1 ef_791 rfl).trans (show f_784 22 = t782 from kn7_u1 ef_784 rfl))]; exact hg0) (Or.inl ⟨by have w1 := hTx.1; omega, hTx.2.2.1.symm⟩) (by show _ = lastOf (clT (DD (a 2 106).toInt.toNat) (kHd (hd.toInt.toNat - 1)) (lwW (a 2) bd pt) hi.toInt) wo.toInt 0; exact (congrArg Int64.toInt et780).trans (kt_i2l _)) (Nat.zero_le _) hP hD hS (lv_sub hl [0, 1, 2, 3, 4, 5, 6] rfl)
  · have b1498 : kb (-1) t1 (-1) := kb_eq c3 kc_m1
    refine lv_iload hx hb dX12_tells_11 (lv_at hl 5 rfl) ?_
    exact kI_ret (v := wo) hx hb hr hlocks rfl hK hS dX12_tells_13 (f, a, g) hP hD ⟨bwo, hI, hE, (by unfold tlF; rw [if_pos (et1.symm.trans c3)]), hZ⟩
