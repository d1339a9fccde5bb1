set_option maxHeartbeats 4000000 in
set_option maxRecDepth 100000 in
theorem z_hasPartN  (l : Launch) {D : va_G} {K : Nat → ClassId} (r : Nat → Nat) (f : Nat → Int32) (a : Nat → Nat → Int32) (g : xG) (tx tt : va_W) (hT : ∀ c ∈ tt, c ∈ tx) (hI : xI f a) (hG : gOK K g.2 tt) (x : Int32)  (k : Nat → Int32) (hVw : sV 32 2 f a k) (hkk : kK k)   : kIG l yX7_hasPart (Cond.code yX7_hasPart cX7_hasPart 2 (some .boolean) :: kG) (rmD 1 0 0) D K [.ref (r 1), .int x] (xX K r f a g tx) (fun v (_ : Unit) => kb 0 v 1 ∧ v = hsV x (k 102)) (fun _ => xX K r f a g tx) 0 0 := by
  refine kIE.of (cc := cX7_hasPart) (maxL := 2) (ret := (some .boolean)) (by decide) rfl (Nat.le_of_ble_eq_true rfl) ?_
  intro p e s m below meth c A hx hb hr hml hown hts hlocks hnm hK hP hD hS hA hV ls hl
  have hg : ∀ w ∈ kG, w.before _ s = true := fun w h => hts w (List.mem_cons_of_mem _ h)
  have hown : s.vm.findClass RX7 = some m.cls := hown
  have hl : lv_has ls 2 [(0, .ref (r 1)), (1, .int x)] := hl
  refine lv_iload_n hx hb dX7_hasPart_0 rfl (lv_at hl 1 rfl) ?_
  refine lv_if_lt (tgt := 22) hx hb dX7_hasPart_1 (by decide) (fun c1 => ?_) (fun c1 => ?_)
  · have h2 := (kc_lt c1)
    have b3 : kb (-2147483648) x (-1) := kr_lt1 h2 (kb_any x) kc_0 (by decide)
    refine lv_iconst (v := 0) hx hb dX7_hasPart_22 (by decide) ?_
    exact kI_ret (v := 0) hx hb hr hlocks (by decide +kernel) hK hS dX7_hasPart_23 () hP hD ⟨(kb_w kc_0 (by decide) (by decide)), (by unfold hsV; rw [if_neg (fun q => by have w2 := (b3).1; have w3 := (b3).2; have q1 := q.1; have q2 := q.2; have w4 := (kK_r hkk 102 0 10 (by decide) (by decide)).2; omega)])⟩
  · have h4 := (kc_nlt c1)
    have b5 : kb 0 x 2147483647 := kr_le2 h4 kc_0 (kb_any x)
    refine lv_iload_n hx hb dX7_hasPart_4 rfl (lv_at hl 1 rfl) ?_
    refine lv_aload_n hx hb dX7_hasPart_5 rfl (lv_at hl 0 rfl) ?_
    refine va_get (D := D) (ci := 7) (v := .int (f 32)) (C := RX7) (T := TX7) (N := 20) hx hb hg inC7 hown hK hP 1 rfl rfl 0 (by decide) (hg _ wt1_79) (fun _ h9 => h9) rfl dX7_hasPart_6 ?_
    refine lv_topi (fun t6 et6 => ?_)
    have b7 : kb 0 t6 10 := kb_eq et6 (fI_at hI.1 32 (by decide) (by decide))
    have kvt6 : t6 = k 102 := et6.trans ((sv_parts hVw))
    have kvit6 : t6.toInt = (k 102).toInt := congrArg Int32.toInt kvt6
    have b8 : kb 0 t6 10 := kb_eq kvt6 (kK_r hkk 102 _ _ (by decide) (by decide))
    refine lv_icmp_ge (tgt := 22) hx hb dX7_hasPart_9 (by decide) (fun c9 => ?_) (fun c9 => ?_)
    · have h10 := (kc_le c9)
      refine lv_iconst (v := 0) hx hb dX7_hasPart_22 (by decide) ?_
      exact kI_ret (v := 0) hx hb hr hlocks (by decide +kernel) hK hS dX7_hasPart_23 () hP hD ⟨(kb_w kc_0 (by decide) (by decide)), (by unfold hsV; rw [if_neg (fun q => by have w2 := (b5).1; have w3 := (b5).2; have q1 := q.1; have q2 := q.2; have w1 := kvit6; have w4 := (b8).2; omega)])⟩
    · have h11 := (kc_nle c9)
      have b12 : kb 0 x 9 := kr_lt1 h11 b5 b8 (by decide)
      have b13 : kb 1 t6 10 := kr_lt2 h11 b5 b8 (by decide)
      refine lv_iload_n hx hb dX7_hasPart_12 rfl (lv_at hl 1 rfl) ?_
      refine lv_bipush (v := 10) hx hb dX7_hasPart_13 (by decide) ?_
      refine lv_icmp_ge (tgt := 22) hx hb dX7_hasPart_15 (by decide) (fun c14 => ?_) (fun c14 => ?_)
      · have h15 := (kc_le c14)
        exact kb_no (kr_le1 h15 kc_10 b12) (by decide)
      · have h16 := (kc_nle c14)
        refine lv_iconst (v := 1) hx hb dX7_hasPart_18 (by decide) ?_
        refine lv_goto (tgt := 23) hx hb dX7_hasPart_19 (by decide) ?_
        exact kI_ret (v := 1) hx hb hr hlocks (by decide +kernel) hK hS dX7_hasPart_23 () hP hD ⟨(kb_w kc_1 (by decide) (by decide)), (by unfold hsV; rw [if_pos ⟨(b12).1, by have w1 := kvit6; have w2 := kc_nle c9; omega⟩])⟩
set_option maxHeartbeats 4000000 in
set_option maxRecDepth 100000 in
theorem z_hasBuilderN  (l : Launch) {D : va_G} {K : Nat → ClassId} (r : Nat → Nat) (f : Nat → Int32) (a : Nat → Nat → Int32) (g : xG) (tx tt : va_W) (hT : ∀ c ∈ tt, c ∈ tx) (hI : xI f a) (hG : gOK K g.2 tt) (x : Int32)  (k : Nat → Int32) (hVw : sV 32 2 f a k) (hkk : kK k)   : kIG l yX7_hasBuilder (Cond.code yX7_hasBuilder cX7_hasBuilder 2 (some .boolean) :: kG) (rmD 1 0 0) D K [.ref (r 1), .int x] (xX K r f a g tx) (fun v (_ : Unit) => kb 0 v 1 ∧ v = hsV x (k 103)) (fun _ => xX K r f a g tx) 0 0 := by
  refine kIE.of (cc := cX7_hasBuilder) (maxL := 2) (ret := (some .boolean)) (by decide) rfl (Nat.le_of_ble_eq_true rfl) ?_
  intro p e s m below meth c A hx hb hr hml hown hts hlocks hnm hK hP hD hS hA hV ls hl
  have hg : ∀ w ∈ kG, w.before _ s = true := fun w h => hts w (List.mem_cons_of_mem _ h)
  have hown : s.vm.findClass RX7 = some m.cls := hown
  have hl : lv_has ls 2 [(0, .ref (r 1)), (1, .int x)] := hl
  refine lv_iload_n hx hb dX7_hasBuilder_0 rfl (lv_at hl 1 rfl) ?_
  refine lv_if_lt (tgt := 22) hx hb dX7_hasBuilder_1 (by decide) (fun c1 => ?_) (fun c1 => ?_)
  · have h2 := (kc_lt c1)
    have b3 : kb (-2147483648) x (-1) := kr_lt1 h2 (kb_any x) kc_0 (by decide)
    refine lv_iconst (v := 0) hx hb dX7_hasBuilder_22 (by decide) ?_
    exact kI_ret (v := 0) hx hb hr hlocks (by decide +kernel) hK hS dX7_hasBuilder_23 () hP hD ⟨(kb_w kc_0 (by decide) (by decide)), (by unfold hsV; rw [if_neg (fun q => by have w2 := (b3).1; have w3 := (b3).2; have q1 := q.1; have q2 := q.2; have w4 := (kK_r hkk 103 0 6 (by decide) (by decide)).2; omega)])⟩
  · have h4 := (kc_nlt c1)
    have b5 : kb 0 x 2147483647 := kr_le2 h4 kc_0 (kb_any x)
    refine lv_iload_n hx hb dX7_hasBuilder_4 rfl (lv_at hl 1 rfl) ?_
    refine lv_aload_n hx hb dX7_hasBuilder_5 rfl (lv_at hl 0 rfl) ?_
    refine va_get (D := D) (ci := 7) (v := .int (f 38)) (C := RX7) (T := TX7) (N := 20) hx hb hg inC7 hown hK hP 1 rfl rfl 6 (by decide) (hg _ wt1_104) (fun _ h9 => h9) rfl dX7_hasBuilder_6 ?_
    refine lv_topi (fun t6 et6 => ?_)
    have kvt6 : t6 = k 103 := et6.trans ((sv_builders hVw))
    have kvit6 : t6.toInt = (k 103).toInt := congrArg Int32.toInt kvt6
    have b7 : kb 0 t6 6 := kb_eq kvt6 (kK_r hkk 103 _ _ (by decide) (by decide))
    refine lv_icmp_ge (tgt := 22) hx hb dX7_hasBuilder_9 (by decide) (fun c8 => ?_) (fun c8 => ?_)
    · have h9 := (kc_le c8)
      refine lv_iconst (v := 0) hx hb dX7_hasBuilder_22 (by decide) ?_
      exact kI_ret (v := 0) hx hb hr hlocks (by decide +kernel) hK hS dX7_hasBuilder_23 () hP hD ⟨(kb_w kc_0 (by decide) (by decide)), (by unfold hsV; rw [if_neg (fun q => by have w2 := (b5).1; have w3 := (b5).2; have q1 := q.1; have q2 := q.2; have w1 := kvit6; have w4 := (b7).2; omega)])⟩
    · have h10 := (kc_nle c8)
      have b11 : kb 0 x 5 := kr_lt1 h10 b5 b7 (by decide)
      have b12 : kb 1 t6 6 := kr_lt2 h10 b5 b7 (by decide)
      refine lv_iload_n hx hb dX7_hasBuilder_12 rfl (lv_at hl 1 rfl) ?_
      refine lv_bipush (v := 6) hx hb dX7_hasBuilder_13 (by decide) ?_
      refine lv_icmp_ge (tgt := 22) hx hb dX7_hasBuilder_15 (by decide) (fun c13 => ?_) (fun c13 => ?_)
      · have h14 := (kc_le c13)
        exact kb_no (kr_le1 h14 kc_6 b11) (by decide)
      · have h15 := (kc_nle c13)
        refine lv_iconst (v := 1) hx hb dX7_hasBuilder_18 (by decide) ?_
        refine lv_goto (tgt := 23) hx hb dX7_hasBuilder_19 (by decide) ?_
        exact kI_ret (v := 1) hx hb hr hlocks (by decide +kernel) hK hS dX7_hasBuilder_23 () hP hD ⟨(kb_w kc_1 (by decide) (by decide)), (by unfold hsV; rw [if_pos ⟨(b11).1, by have w1 := kvit6; have w2 := kc_nle c8; omega⟩])⟩
set_option maxHeartbeats 4000000 in
set_option maxRecDepth 100000 in
theorem z_hasCraftN  (l : Launch) {D : va_G} {K : Nat → ClassId} (r : Nat → Nat) (f : Nat → Int32) (a : Nat → Nat → Int32) (g : xG) (tx tt : va_W) (hT : ∀ c ∈ tt, c ∈ tx) (hI : xI f a) (hG : gOK K g.2 tt) (bd : Int32) (pt : Int32) (bbd : kb 0 bd 5) (bpt : kb 0 pt 9) (k : Nat → Int32) (hVw : sV 32 2 f a k) (hkk : kK k)   : kIG l yX7_hasCraft (Cond.code yX7_hasCraft cX7_hasCraft 3 (some .boolean) :: kG) (rmD 1 0 0) D K [.ref (r 1), .int bd, .int pt] (xX K r f a g tx) (fun v (_ : Unit) => kb 0 v 1 ∧ v = (if crB k bd.toNatClampNeg pt.toNatClampNeg = 1 then 1 else 0)) (fun _ => xX K r f a g tx) 0 0 := by
  refine kIE.of (cc := cX7_hasCraft) (maxL := 3) (ret := (some .boolean)) (by decide) rfl (Nat.le_of_ble_eq_true rfl) ?_
  intro p e s m below meth c A hx hb hr hml hown hts hlocks hnm hK hP hD hS hA hV ls hl
  have hg : ∀ w ∈ kG, w.before _ s = true := fun w h => hts w (List.mem_cons_of_mem _ h)
  have hown : s.vm.findClass RX7 = some m.cls := hown
  have hl : lv_has ls 3 [(0, .ref (r 1)), (1, .int bd), (2, .int pt)] := hl
  refine lv_aload_n hx hb dX7_hasCraft_0 rfl (lv_at hl 0 rfl) ?_
  refine va_get (D := D) (ci := 7) (v := .ref (r 7)) (C := RX7) (T := TX7) (N := 20) hx hb hg inC7 hown hK hP 1 rfl rfl 7 (by decide) (hg _ wt1_110) (fun _ h9 => h9) rfl dX7_hasCraft_1 ?_
  refine lv_iload_n hx hb dX7_hasCraft_4 rfl (lv_at hl 1 rfl) ?_
  refine va_iald hx hb hK hP 7 0 rfl rfl (kb_in bbd (by decide) (by decide)) dX7_hasCraft_5 ?_
  refine lv_topi (fun t1 et1 => ?_)
  have kvt1 : t1 = k (63 + bd.toNatClampNeg) := et1.trans ((sv_crafts hVw (kb_clt bbd (by decide) (by decide))))
  have b2 : kb 0 t1 15 := kb_eq et1 (et1 ▸ kb_eq kvt1 (kK_s hkk 63 6 _ _ (by decide) (by decide) (kb_clt bbd (by decide) (by decide))))
  refine lv_aload_n hx hb dX7_hasCraft_6 rfl (lv_at hl 0 rfl) ?_
  refine va_get (D := D) (ci := 7) (v := .ref (r 4)) (C := RX7) (T := TX7) (N := 20) hx hb hg inC7 hown hK hP 1 rfl rfl 3 (by decide) (hg _ wt1_93) (fun _ h9 => h9) rfl dX7_hasCraft_7 ?_
  refine lv_iload_n hx hb dX7_hasCraft_10 rfl (lv_at hl 2 rfl) ?_
  refine va_iald hx hb hK hP 4 0 rfl rfl (kb_in bpt (by decide) (by decide)) dX7_hasCraft_11 ?_
  refine lv_topi (fun t3 et3 => ?_)
  have kvt3 : t3 = k (43 + pt.toNatClampNeg) := et3.trans ((sv_craft hVw (kb_clt bpt (by decide) (by decide))))
  have b4 : kb 0 t3 3 := kb_eq et3 (et3 ▸ kb_eq kvt3 (kK_s hkk 43 10 _ _ (by decide) (by decide) (kb_clt bpt (by decide) (by decide))))
  refine lv_ishr hx hb dX7_hasCraft_12 ?_
  refine lv_topi (fun t5 et5 => ?_)
  refine lv_iconst (v := 1) hx hb dX7_hasCraft_13 (by decide) ?_
  refine lv_iand hx hb dX7_hasCraft_14 ?_
  refine lv_topi (fun t6 et6 => ?_)
  have b7 : kb 0 t6 1 := kb_eq et6 (kb_and 1 (by decide) (by decide))
  refine lv_iconst (v := 1) hx hb dX7_hasCraft_15 (by decide) ?_
  refine lv_icmp_ne (tgt := 23) hx hb dX7_hasCraft_16 (by decide) (fun c8 => ?_) (fun c8 => ?_)
  · have b9 : kb 0 t6 0 := kr_neh c8 b7 kc_1 (by decide)
    refine lv_iconst (v := 0) hx hb dX7_hasCraft_23 (by decide) ?_
    exact kI_ret (v := 0) hx hb hr hlocks (by decide +kernel) hK hS dX7_hasCraft_24 () hP hD ⟨(kb_w kc_0 (by decide) (by decide)), (by rw [show crB k bd.toNatClampNeg pt.toNatClampNeg = t6 from (show t6 = crB k bd.toNatClampNeg pt.toNatClampNeg from by rw [et6, et5, kvt1, kvt3]; rfl).symm, if_neg c8])⟩
  · have b10 : kb 1 t6 1 := kb_eq c8 kc_1
    refine lv_iconst (v := 1) hx hb dX7_hasCraft_19 (by decide) ?_
    refine lv_goto (tgt := 24) hx hb dX7_hasCraft_20 (by decide) ?_
    exact kI_ret (v := 1) hx hb hr hlocks (by decide +kernel) hK hS dX7_hasCraft_24 () hP hD ⟨(kb_w kc_1 (by decide) (by decide)), (by rw [show crB k bd.toNatClampNeg pt.toNatClampNeg = t6 from (show t6 = crB k bd.toNatClampNeg pt.toNatClampNeg from by rw [et6, et5, kvt1, kvt3]; rfl).symm, if_pos c8])⟩
set_option maxHeartbeats 4000000 in
set_option maxRecDepth 100000 in
theorem z_withoutLawN  (l : Launch) {D : va_G} {K : Nat → ClassId} (r : Nat → Nat) (f : Nat → Int32) (a : Nat → Nat → Int32) (g : xG) (tx tt : va_W) (hT : ∀ c ∈ tt, c ∈ tx) (hI : xI f a) (hG : gOK K g.2 tt) (kd : Int32) (bd : Int32) (pt : Int32) (bkd : kb 0 kd 3) (bbd : kb 0 bd 5) (bpt : kb 0 pt 9) (k : Nat → Int32) (hVw : sV 32 2 f a k) (hkk : kK k)   : kIG l yX7_withoutLaw (Cond.code yX7_withoutLaw cX7_withoutLaw 4 (some .int) :: kG) (rmD 2 0 0) D K [.ref (r 1), .int kd, .int bd, .int pt] (xX K r f a g tx) (fun v (_ : Unit) => kb (-2147483648) v 2147483647 ∧ v.toInt = wo0 k kd.toInt.toNat bd pt) (fun _ => xX K r f a g tx) 0 0 := by
  refine kIE.of (cc := cX7_withoutLaw) (maxL := 4) (ret := (some .int)) (by decide) rfl (Nat.le_of_ble_eq_true rfl) ?_
  intro p e s m below meth c A hx hb hr hml hown hts hlocks hnm hK hP hD hS hA hV ls hl
  have hg : ∀ w ∈ kG, w.before _ s = true := fun w h => hts w (List.mem_cons_of_mem _ h)
  have hown : s.vm.findClass RX7 = some m.cls := hown
  have hl : lv_has ls 4 [(0, .ref (r 1)), (1, .int kd), (2, .int bd), (3, .int pt)] := hl
  refine lv_iload_n hx hb dX7_withoutLaw_0 rfl (lv_at hl 1 rfl) ?_
  refine lv_if_ne (tgt := 24) hx hb dX7_withoutLaw_1 (by decide) (fun c1 => ?_) (fun c1 => ?_)
  · have b2 : kb 1 kd 3 := kr_nel c1 bkd kc_0 (by decide)
    refine lv_iload_n hx hb dX7_withoutLaw_24 rfl (lv_at hl 1 rfl) ?_
    refine lv_iconst (v := 3) hx hb dX7_withoutLaw_25 (by decide) ?_
    refine lv_icmp_ne (tgt := 33) hx hb dX7_withoutLaw_26 (by decide) (fun c3 => ?_) (fun c3 => ?_)
    · have b4 : kb 1 kd 2 := kr_neh c3 b2 kc_3 (by decide)
      refine lv_iconst (v := 1) hx hb dX7_withoutLaw_33 (by decide) ?_
      exact kI_ret (v := 1) hx hb hr hlocks rfl hK hS dX7_withoutLaw_34 () hP hD ⟨(kb_w kc_1 (by decide) (by decide)), (by unfold wo0; rw [if_neg (fun q => c1 (Int32.toInt_inj.mp (by have w1 := bkd.1; have w2 : (0 : Int32).toInt = 0 := (by decide +kernel); omega))), if_neg (fun q => c3 (Int32.toInt_inj.mp (by have w1 := bkd.1; have w2 : (3 : Int32).toInt = 3 := (by decide +kernel); omega)))]; decide +kernel)⟩
    · have b5 : kb 3 kd 3 := kb_eq c3 kc_3
      refine lv_iconst (v := 0) hx hb dX7_withoutLaw_29 (by decide) ?_
      refine lv_goto (tgt := 34) hx hb dX7_withoutLaw_30 (by decide) ?_
      exact kI_ret (v := 0) hx hb hr hlocks rfl hK hS dX7_withoutLaw_34 () hP hD ⟨(kb_w kc_0 (by decide) (by decide)), (by have k3 : kd.toInt.toNat = 3 := (by rw [c3]; decide +kernel); unfold wo0; rw [k3, if_neg (by decide), if_pos rfl]; decide +kernel)⟩
  · have b6 : kb 0 kd 0 := kb_eq c1 kc_0
    refine lv_aload_n hx hb dX7_withoutLaw_4 rfl (lv_at hl 0 rfl) ?_
    refine lv_iload_n hx hb dX7_withoutLaw_5 rfl (lv_at hl 2 rfl) ?_
    refine lv_iload_n hx hb dX7_withoutLaw_6 rfl (lv_at hl 3 rfl) ?_
    refine kIG.callW (As := [.int bd, .int pt]) (rest := []) ⟨hx, hb, hml, hown, hg⟩ (z_hasCraftN l r f a g tx tt hT hI hG bd pt bbd bpt k hVw hkk ) (cwV 2 hg (kgV wt3_88 wt3_90 wp1_4 wt1_2 wt3_91) rfl rfl rfl (by decide +kernel) ⟨by decide, by decide⟩) hV hK hP hD hS hA (1) 7 rfl rfl rfl hl.1 rfl (Nat.le_of_ble_eq_true rfl) dX7_withoutLaw_7 ⟨Nat.le_refl _, Nat.le_refl _⟩ (fun v8 u9 H locs hw7 hP hD hS => ?_)
    have hP : va_P D vwCl (xX K r f a g tx) H := hP
    have hD : va_D A (xX K r f a g tx) := hD
    refine lv_if_eq (tgt := 22) hx hb dX7_withoutLaw_10 (by decide) (fun c10 => ?_) (fun c10 => ?_)
    · have b11 : kb 0 v8 0 := kb_eq c10 kc_0
      refine lv_iconst (v := 0) hx hb dX7_withoutLaw_22 (by decide) ?_
      exact kI_ret (v := 0) hx hb hr hlocks rfl hK hS dX7_withoutLaw_23 () hP hD ⟨(kb_w kc_0 (by decide) (by decide)), (by have k0 : kd.toInt.toNat = 0 := (by rw [c1]; decide +kernel); unfold wo0; rw [k0, if_pos rfl, if_neg (bit_n hw7.2 c10)]; decide +kernel)⟩
    · have b12 : kb 1 v8 1 := kr_nel c10 hw7.1 kc_0 (by decide)
      refine lv_aload_n hx hb dX7_withoutLaw_13 rfl (lv_at hl 0 rfl) ?_
      refine va_get (D := D) (ci := 7) (v := .ref (r 8)) (C := RX7) (T := TX7) (N := 20) hx hb hg inC7 hown hK hP 1 rfl rfl 8 (by decide) (hg _ wt1_114) (fun _ h9 => h9) rfl dX7_withoutLaw_14 ?_
      refine lv_iload_n hx hb dX7_withoutLaw_17 rfl (lv_at hl 2 rfl) ?_
      refine va_iald hx hb hK hP 8 0 rfl rfl (kb_in bbd (by decide) (by decide)) dX7_withoutLaw_18 ?_
      refine lv_topi (fun t13 et13 => ?_)
      have kvt13 : t13 = k (69 + bd.toNatClampNeg) := et13.trans ((sv_pace hVw (kb_clt bbd (by decide) (by decide))))
      have b14 : kb 0 t13 9 := kb_eq et13 (et13 ▸ kb_eq kvt13 (kK_s hkk 69 6 _ _ (by decide) (by decide) (kb_clt bbd (by decide) (by decide))))
      refine lv_goto (tgt := 23) hx hb dX7_withoutLaw_19 (by decide) ?_
      exact kI_ret (v := t13) hx hb hr hlocks rfl hK hS dX7_withoutLaw_23 () hP hD ⟨(kb_w b14 (by decide) (by decide)), (by have k0 : kd.toInt.toNat = 0 := (by rw [c1]; decide +kernel); unfold wo0; rw [k0, if_pos rfl, if_pos (bit_y hw7.2 c10), kvt13])⟩
set_option maxHeartbeats 4000000 in
set_option maxRecDepth 100000 in
theorem z_writeWordsN  (l : Launch) {D : va_G} {K : Nat → ClassId} (r : Nat → Nat) (f : Nat → Int32) (a : Nat → Nat → Int32) (g : xG) (tx tt : va_W) (hT : ∀ c ∈ tt, c ∈ tx) (hI : xI f a) (hG : gOK K g.2 tt) (bd : Int32) (pt : Int32) (bbd : kb 0 bd 5) (bpt : kb 0 pt 9) (k : Nat → Int32) (hVw : sV 32 2 f a k) (hkk : kK k)   : kVG l yX7_writeWords (Cond.code yX7_writeWords cX7_writeWords 5 none :: kG) (rmD 1 0 0) D K [.ref (r 1), .int bd, .int pt] (xX K r f a g tx) (fun (u : xS) => xI u.1 u.2.1 ∧ gOK K u.2.2.2 tt ∧ xEk ([], [], []) f a g u.1 u.2.1 u.2.2 ∧ (∀ j, j < 10 → (u.2.2.1 17 j).toInt = lwW k bd pt j)) (fun u => xX K r u.1 u.2.1 u.2.2 tx) 0 0 := by
  refine kVG.of (cc := cX7_writeWords) (maxL := 5) (ret := none) (by decide) rfl (Nat.le_of_ble_eq_true rfl) ?_
  intro p e s m below meth c A hx hb hr hml hown hts hlocks hnm hK hP hD hS hA hV ls hl
  have hE : xEk ([], [], []) f a g f a g := xEk_rf
  have hg : ∀ w ∈ kG, w.before _ s = true := fun w h => hts w (List.mem_cons_of_mem _ h)
  have hown : s.vm.findClass RX7 = some m.cls := hown
  have hl : lv_has ls 5 [(0, .ref (r 1)), (1, .int bd), (2, .int pt)] := hl
  refine lv_iconst (v := 0) hx hb dX7_writeWords_0 (by decide) ?_
  refine lv_istore_n (lv' := [(3, .int 0), (0, .ref (r 1)), (1, .int bd), (2, .int pt)]) hx hb dX7_writeWords_1 rfl hl (by decide) rfl (fun ls hl => ?_)
  refine lv_iconst (v := 0) hx hb dX7_writeWords_2 (by decide) ?_
  refine lv_istore (lv' := [(4, .int 0), (3, .int 0), (0, .ref (r 1)), (1, .int bd), (2, .int pt)]) hx hb dX7_writeWords_3 hl (by decide) rfl (fun ls hl => ?_)
  have lp3 : ∀ (n4 : Nat) (nn : Nat) (H : Heap) (locs : List Loc) (ls : Array Slot) (y1 : Int32) (y2 : Int32), (6 < y1.toInt + (n4 : Int)) → (kb 0 y1 6) → (kb 0 y2 6) → (y1.toInt = (nn : Int)) → (y2.toInt = (oth k bd pt nn : Int)) → ((nn : Int) ≤ (k 103).toInt) → va_P D vwCl (xX K r f a g tx) H → va_D A (xX K r f a g tx) → va_S A s.heap H locs → lv_has ls 5 [(4, .int y1), (3, .int y2), (0, .ref (r 1)), (1, .int bd), (2, .int pt)] → W p l e (rmD 1 0 0) s m ([.ref (r 1), .int bd, .int pt] : List Value).toArray below meth c H locs 0 0 (kQv D (tysK K) (fun (u : xS) => xI u.1 u.2.1 ∧ gOK K u.2.2.2 tt ∧ xEk ([], [], []) f a g u.1 u.2.1 u.2.2 ∧ (∀ j, j < 10 → (u.2.2.1 17 j).toInt = lwW k bd pt j)) (fun u => xX K r u.1 u.2.1 u.2.2 tx) A below ([.ref (r 1), .int bd, .int pt] : List Value).toArray s 0 0) (F0 m 5 ls []) := by
    intro n4
    induction n4 with
    | zero =>
      intro nn  H locs ls y1 y2 hmlp3 b5 b6 hvlp3_0 hvlp3_1 hvlp3_2 hP hD hS hl
      exact (by have h1 := b5.2; have h2 := hmlp3; omega : False).elim
    | succ n4 ihlp3 =>
      intro nn  H locs ls y1 y2 hmlp3 b5 b6 hvlp3_0 hvlp3_1 hvlp3_2 hP hD hS hl
      have hnn : y1 = nI nn := nI_q hvlp3_0
      refine lv_iload hx hb dX7_writeWords_5 (lv_at hl 0 rfl) ?_
      refine lv_aload_n hx hb dX7_writeWords_7 rfl (lv_at hl 2 rfl) ?_
      refine va_get (D := D) (ci := 7) (v := .int (f 38)) (C := RX7) (T := TX7) (N := 20) hx hb hg inC7 hown hK hP 1 rfl rfl 6 (by decide) (hg _ wt1_104) (fun _ h9 => h9) rfl dX7_writeWords_8 ?_
      refine lv_topi (fun t7 et7 => ?_)
      have kvt7 : t7 = k 103 := et7.trans ((sv_builders hVw))
      have kvit7 : t7.toInt = (k 103).toInt := congrArg Int32.toInt kvt7
      have b8 : kb 0 t7 6 := kb_eq kvt7 (kK_r hkk 103 _ _ (by decide) (by decide))
      refine lv_icmp_ge (tgt := 47) hx hb dX7_writeWords_11 (by decide) (fun c9 => ?_) (fun c9 => ?_)
      · have h10 := (kc_le c9)
        have hnb : nn = (k 103).toInt.toNat := by have w1 := hvlp3_0; have w2 := (b5).1; have w3 := (kK_r hkk 103 0 6 (by decide) (by decide)).1; have w4 := (kK_r hkk 103 0 6 (by decide) (by decide)).2; have w5 := hvlp3_2; have w6 := kvit7; first | (have w7 := kc_le c9; omega) | (have w7 := kc_nlt c9; omega) | skip; omega
        have hot : y2.toInt = (oth k bd pt (k 103).toInt.toNat : Int) := by rw [← hnb]; exact hvlp3_1
        refine lv_aload_n hx hb dX7_writeWords_47 rfl (lv_at hl 2 rfl) ?_
        refine va_get (D := D) (ci := 7) (v := .ref (r 16)) (C := RX7) (T := TX7) (N := 20) hx hb hg inC7 hown hK hP 1 rfl rfl 19 (by decide) (hg _ wt1_154) (fun _ h9 => h9) rfl dX7_writeWords_48 ?_
        refine va_get (D := D) (ci := 8) (v := .ref (r 17)) (C := RX8) (T := TX8) (N := 5) hx hb hg inC8 hown hK hP 16 rfl rfl 0 (by decide) (hg _ wt1_54) (fun _ h9 => h9) rfl dX7_writeWords_51 ?_
        refine lv_iconst (v := 0) hx hb dX7_writeWords_54 (by decide) ?_
        refine lv_iload_n hx hb dX7_writeWords_55 rfl (lv_at hl 3 rfl) ?_
        refine lv_i2l hx hb dX7_writeWords_56 rfl ?_
        refine lv_topl (fun t11 et11 => ?_)
        have b12 : kbl 0 t11 5 := kbl_eq et11 (kbl_i2l bbd)
        refine va_last hx hb hK hP hD hS 17 3 rfl rfl (kb_in kc_0 (by decide) (by decide)) dX7_writeWords_57 (fun H locs hP hD hS => ?_)
        rw [cl_0] at hP hD
        have hP : va_P D vwCl (xX K r f a (va_up g.1 17 (va_up (g.1 17) 0 t11), g.2) tx) H := hP
        have hD : va_D A (xX K r f a (va_up g.1 17 (va_up (g.1 17) 0 t11), g.2) tx) := hD
        refine k_gen (P := fun z => va_P D vwCl (xX K r f a z tx) H ∧ va_D A (xX K r f a z tx) ∧ (xI f a) ∧ (gOK K z.2 tt) ∧ (xEk ([], [], []) f a g f a z)) ((va_up g.1 17 (va_up (g.1 17) 0 t11), g.2)) ⟨hP, hD, hI, hG, (xEk_g hE)⟩ (fun g_13 eg_13 hq => ?_)
        obtain ⟨hP, hD, hI, hG, hE⟩ := hq
        have hW0 : ∀ j, g_13.1 17 j = if j = 0 then t11 else g.1 17 j := fun j => by rw [← eg_13]; rfl
        refine lv_aload_n hx hb dX7_writeWords_58 rfl (lv_at hl 2 rfl) ?_
        refine va_get (D := D) (ci := 7) (v := .ref (r 16)) (C := RX7) (T := TX7) (N := 20) hx hb hg inC7 hown hK hP 1 rfl rfl 19 (by decide) (hg _ wt1_154) (fun _ h9 => h9) rfl dX7_writeWords_59 ?_
        refine va_get (D := D) (ci := 8) (v := .ref (r 17)) (C := RX8) (T := TX8) (N := 5) hx hb hg inC8 hown hK hP 16 rfl rfl 0 (by decide) (hg _ wt1_54) (fun _ h9 => h9) rfl dX7_writeWords_62 ?_
        refine lv_iconst (v := 1) hx hb dX7_writeWords_65 (by decide) ?_
        refine lv_aload_n hx hb dX7_writeWords_66 rfl (lv_at hl 2 rfl) ?_
        refine va_get (D := D) (ci := 7) (v := .ref (r 8)) (C := RX7) (T := TX7) (N := 20) hx hb hg inC7 hown hK hP 1 rfl rfl 8 (by decide) (hg _ wt1_114) (fun _ h9 => h9) rfl dX7_writeWords_67 ?_
        refine lv_iload_n hx hb dX7_writeWords_70 rfl (lv_at hl 3 rfl) ?_
        refine va_iald hx hb hK hP 8 0 rfl rfl (kb_in bbd (by decide) (by decide)) dX7_writeWords_71 ?_
        refine lv_topi (fun t14 et14 => ?_)
        have kvt14 : t14 = k (69 + bd.toNatClampNeg) := et14.trans ((sv_pace hVw (kb_clt bbd (by decide) (by decide))))
        have b15 : kb 0 t14 9 := kb_eq et14 (et14 ▸ kb_eq kvt14 (kK_s hkk 69 6 _ _ (by decide) (by decide) (kb_clt bbd (by decide) (by decide))))
        refine lv_i2l hx hb dX7_writeWords_72 rfl ?_
        refine lv_topl (fun t16 et16 => ?_)
        have b17 : kbl 0 t16 9 := kbl_eq et16 (kbl_i2l b15)
        refine va_last hx hb hK hP hD hS 17 3 rfl rfl (kb_in kc_1 (by decide) (by decide)) dX7_writeWords_73 (fun H locs hP hD hS => ?_)
        rw [cl_1] at hP hD
        have hP : va_P D vwCl (xX K r f a (va_up g_13.1 17 (va_up (g_13.1 17) 1 t16), g_13.2) tx) H := hP
        have hD : va_D A (xX K r f a (va_up g_13.1 17 (va_up (g_13.1 17) 1 t16), g_13.2) tx) := hD
        refine k_gen (P := fun z => va_P D vwCl (xX K r f a z tx) H ∧ va_D A (xX K r f a z tx) ∧ (xI f a) ∧ (gOK K z.2 tt) ∧ (xEk ([], [], []) f a g f a z)) ((va_up g_13.1 17 (va_up (g_13.1 17) 1 t16), g_13.2)) ⟨hP, hD, hI, hG, (xEk_g hE)⟩ (fun g_18 eg_18 hq => ?_)
        obtain ⟨hP, hD, hI, hG, hE⟩ := hq
        have hW1 : ∀ j, g_18.1 17 j = if j = 1 then t16 else g_13.1 17 j := fun j => by rw [← eg_18]; rfl
        refine lv_aload_n hx hb dX7_writeWords_74 rfl (lv_at hl 2 rfl) ?_
        refine va_get (D := D) (ci := 7) (v := .ref (r 16)) (C := RX7) (T := TX7) (N := 20) hx hb hg inC7 hown hK hP 1 rfl rfl 19 (by decide) (hg _ wt1_154) (fun _ h9 => h9) rfl dX7_writeWords_75 ?_
        refine va_get (D := D) (ci := 8) (v := .ref (r 17)) (C := RX8) (T := TX8) (N := 5) hx hb hg inC8 hown hK hP 16 rfl rfl 0 (by decide) (hg _ wt1_54) (fun _ h9 => h9) rfl dX7_writeWords_78 ?_
        refine lv_iconst (v := 2) hx hb dX7_writeWords_81 (by decide) ?_
        refine lv_aload_n hx hb dX7_writeWords_82 rfl (lv_at hl 2 rfl) ?_
        refine va_get (D := D) (ci := 7) (v := .ref (r 9)) (C := RX7) (T := TX7) (N := 20) hx hb hg inC7 hown hK hP 1 rfl rfl 9 (by decide) (hg _ wt1_116) (fun _ h9 => h9) rfl dX7_writeWords_83 ?_
        refine lv_iload_n hx hb dX7_writeWords_86 rfl (lv_at hl 3 rfl) ?_
        refine va_iald hx hb hK hP 9 0 rfl rfl (kb_in bbd (by decide) (by decide)) dX7_writeWords_87 ?_
        refine lv_topi (fun t19 et19 => ?_)
        have kvt19 : t19 = k (10 + bd.toNatClampNeg) := et19.trans ((sv_tired hVw (kb_clt bbd (by decide) (by decide))))
        have b20 : kb 0 t19 99 := kb_eq et19 (et19 ▸ kb_eq kvt19 (kK_s hkk 10 6 _ _ (by decide) (by decide) (kb_clt bbd (by decide) (by decide))))
        refine lv_i2l hx hb dX7_writeWords_88 rfl ?_
        refine lv_topl (fun t21 et21 => ?_)
        have b22 : kbl 0 t21 99 := kbl_eq et21 (kbl_i2l b20)
        refine va_last hx hb hK hP hD hS 17 3 rfl rfl (kb_in kc_2 (by decide) (by decide)) dX7_writeWords_89 (fun H locs hP hD hS => ?_)
        rw [cl_2] at hP hD
        have hP : va_P D vwCl (xX K r f a (va_up g_18.1 17 (va_up (g_18.1 17) 2 t21), g_18.2) tx) H := hP
        have hD : va_D A (xX K r f a (va_up g_18.1 17 (va_up (g_18.1 17) 2 t21), g_18.2) tx) := hD
        refine k_gen (P := fun z => va_P D vwCl (xX K r f a z tx) H ∧ va_D A (xX K r f a z tx) ∧ (xI f a) ∧ (gOK K z.2 tt) ∧ (xEk ([], [], []) f a g f a z)) ((va_up g_18.1 17 (va_up (g_18.1 17) 2 t21), g_18.2)) ⟨hP, hD, hI, hG, (xEk_g hE)⟩ (fun g_23 eg_23 hq => ?_)
        obtain ⟨hP, hD, hI, hG, hE⟩ := hq
        have hW2 : ∀ j, g_23.1 17 j = if j = 2 then t21 else g_18.1 17 j := fun j => by rw [← eg_23]; rfl
        refine lv_aload_n hx hb dX7_writeWords_90 rfl (lv_at hl 2 rfl) ?_
        refine va_get (D := D) (ci := 7) (v := .ref (r 16)) (C := RX7) (T := TX7) (N := 20) hx hb hg inC7 hown hK hP 1 rfl rfl 19 (by decide) (hg _ wt1_154) (fun _ h9 => h9) rfl dX7_writeWords_91 ?_
        refine va_get (D := D) (ci := 8) (v := .ref (r 17)) (C := RX8) (T := TX8) (N := 5) hx hb hg inC8 hown hK hP 16 rfl rfl 0 (by decide) (hg _ wt1_54) (fun _ h9 => h9) rfl dX7_writeWords_94 ?_
        refine lv_iconst (v := 3) hx hb dX7_writeWords_97 (by decide) ?_
        refine lv_iload_n hx hb dX7_writeWords_98 rfl (lv_at hl 4 rfl) ?_
        refine lv_i2l hx hb dX7_writeWords_99 rfl ?_
        refine lv_topl (fun t24 et24 => ?_)
        have b25 : kbl 0 t24 9 := kbl_eq et24 (kbl_i2l bpt)
        refine va_last hx hb hK hP hD hS 17 3 rfl rfl (kb_in kc_3 (by decide) (by decide)) dX7_writeWords_100 (fun H locs hP hD hS => ?_)
        rw [cl_3] at hP hD
        have hP : va_P D vwCl (xX K r f a (va_up g_23.1 17 (va_up (g_23.1 17) 3 t24), g_23.2) tx) H := hP
        have hD : va_D A (xX K r f a (va_up g_23.1 17 (va_up (g_23.1 17) 3 t24), g_23.2) tx) := hD
        refine k_gen (P := fun z => va_P D vwCl (xX K r f a z tx) H ∧ va_D A (xX K r f a z tx) ∧ (xI f a) ∧ (gOK K z.2 tt) ∧ (xEk ([], [], []) f a g f a z)) ((va_up g_23.1 17 (va_up (g_23.1 17) 3 t24), g_23.2)) ⟨hP, hD, hI, hG, (xEk_g hE)⟩ (fun g_26 eg_26 hq => ?_)
        obtain ⟨hP, hD, hI, hG, hE⟩ := hq
        have hW3 : ∀ j, g_26.1 17 j = if j = 3 then t24 else g_23.1 17 j := fun j => by rw [← eg_26]; rfl
        refine lv_aload_n hx hb dX7_writeWords_101 rfl (lv_at hl 2 rfl) ?_
        refine va_get (D := D) (ci := 7) (v := .ref (r 16)) (C := RX7) (T := TX7) (N := 20) hx hb hg inC7 hown hK hP 1 rfl rfl 19 (by decide) (hg _ wt1_154) (fun _ h9 => h9) rfl dX7_writeWords_102 ?_
        refine va_get (D := D) (ci := 8) (v := .ref (r 17)) (C := RX8) (T := TX8) (N := 5) hx hb hg inC8 hown hK hP 16 rfl rfl 0 (by decide) (hg _ wt1_54) (fun _ h9 => h9) rfl dX7_writeWords_105 ?_
        refine lv_iconst (v := 4) hx hb dX7_writeWords_108 (by decide) ?_
        refine lv_aload_n hx hb dX7_writeWords_109 rfl (lv_at hl 2 rfl) ?_
        refine va_get (D := D) (ci := 7) (v := .ref (r 7)) (C := RX7) (T := TX7) (N := 20) hx hb hg inC7 hown hK hP 1 rfl rfl 7 (by decide) (hg _ wt1_110) (fun _ h9 => h9) rfl dX7_writeWords_110 ?_
        refine lv_iload_n hx hb dX7_writeWords_113 rfl (lv_at hl 3 rfl) ?_
        refine va_iald hx hb hK hP 7 0 rfl rfl (kb_in bbd (by decide) (by decide)) dX7_writeWords_114 ?_
        refine lv_topi (fun t27 et27 => ?_)
        have kvt27 : t27 = k (63 + bd.toNatClampNeg) := et27.trans ((sv_crafts hVw (kb_clt bbd (by decide) (by decide))))
        have b28 : kb 0 t27 15 := kb_eq et27 (et27 ▸ kb_eq kvt27 (kK_s hkk 63 6 _ _ (by decide) (by decide) (kb_clt bbd (by decide) (by decide))))
        refine lv_aload_n hx hb dX7_writeWords_115 rfl (lv_at hl 2 rfl) ?_
        refine va_get (D := D) (ci := 7) (v := .ref (r 4)) (C := RX7) (T := TX7) (N := 20) hx hb hg inC7 hown hK hP 1 rfl rfl 3 (by decide) (hg _ wt1_93) (fun _ h9 => h9) rfl dX7_writeWords_116 ?_
        refine lv_iload_n hx hb dX7_writeWords_119 rfl (lv_at hl 4 rfl) ?_
        refine va_iald hx hb hK hP 4 0 rfl rfl (kb_in bpt (by decide) (by decide)) dX7_writeWords_120 ?_
        refine lv_topi (fun t29 et29 => ?_)
        have kvt29 : t29 = k (43 + pt.toNatClampNeg) := et29.trans ((sv_craft hVw (kb_clt bpt (by decide) (by decide))))
        have b30 : kb 0 t29 3 := kb_eq et29 (et29 ▸ kb_eq kvt29 (kK_s hkk 43 10 _ _ (by decide) (by decide) (kb_clt bpt (by decide) (by decide))))
        refine lv_ishr hx hb dX7_writeWords_121 ?_
        refine lv_topi (fun t31 et31 => ?_)
        refine lv_iconst (v := 1) hx hb dX7_writeWords_122 (by decide) ?_
        refine lv_iand hx hb dX7_writeWords_123 ?_
        refine lv_topi (fun t32 et32 => ?_)
        have b33 : kb 0 t32 1 := kb_eq et32 (kb_and 1 (by decide) (by decide))
        refine lv_i2l hx hb dX7_writeWords_124 rfl ?_
        refine lv_topl (fun t34 et34 => ?_)
        have b35 : kbl 0 t34 1 := kbl_eq et34 (kbl_i2l b33)
        refine va_last hx hb hK hP hD hS 17 3 rfl rfl (kb_in kc_4 (by decide) (by decide)) dX7_writeWords_125 (fun H locs hP hD hS => ?_)
        rw [cl_4] at hP hD
        have hP : va_P D vwCl (xX K r f a (va_up g_26.1 17 (va_up (g_26.1 17) 4 t34), g_26.2) tx) H := hP
        have hD : va_D A (xX K r f a (va_up g_26.1 17 (va_up (g_26.1 17) 4 t34), g_26.2) tx) := hD
        refine k_gen (P := fun z => va_P D vwCl (xX K r f a z tx) H ∧ va_D A (xX K r f a z tx) ∧ (xI f a) ∧ (gOK K z.2 tt) ∧ (xEk ([], [], []) f a g f a z)) ((va_up g_26.1 17 (va_up (g_26.1 17) 4 t34), g_26.2)) ⟨hP, hD, hI, hG, (xEk_g hE)⟩ (fun g_36 eg_36 hq => ?_)
        obtain ⟨hP, hD, hI, hG, hE⟩ := hq
        have hW4 : ∀ j, g_36.1 17 j = if j = 4 then t34 else g_26.1 17 j := fun j => by rw [← eg_36]; rfl
        refine lv_aload_n hx hb dX7_writeWords_126 rfl (lv_at hl 2 rfl) ?_
        refine va_get (D := D) (ci := 7) (v := .ref (r 16)) (C := RX7) (T := TX7) (N := 20) hx hb hg inC7 hown hK hP 1 rfl rfl 19 (by decide) (hg _ wt1_154) (fun _ h9 => h9) rfl dX7_writeWords_127 ?_
        refine va_get (D := D) (ci := 8) (v := .ref (r 17)) (C := RX8) (T := TX8) (N := 5) hx hb hg inC8 hown hK hP 16 rfl rfl 0 (by decide) (hg _ wt1_54) (fun _ h9 => h9) rfl dX7_writeWords_130 ?_
        refine lv_iconst (v := 5) hx hb dX7_writeWords_133 (by decide) ?_
        refine lv_aload_n hx hb dX7_writeWords_134 rfl (lv_at hl 2 rfl) ?_
        refine va_get (D := D) (ci := 7) (v := .ref (r 5)) (C := RX7) (T := TX7) (N := 20) hx hb hg inC7 hown hK hP 1 rfl rfl 4 (by decide) (hg _ wt1_95) (fun _ h9 => h9) rfl dX7_writeWords_135 ?_
        refine lv_iload_n hx hb dX7_writeWords_138 rfl (lv_at hl 4 rfl) ?_
        refine va_iald hx hb hK hP 5 0 rfl rfl (kb_in bpt (by decide) (by decide)) dX7_writeWords_139 ?_
        refine lv_topi (fun t37 et37 => ?_)
        have kvt37 : t37 = k (53 + pt.toNatClampNeg) := et37.trans ((sv_heavy hVw (kb_clt bpt (by decide) (by decide))))
        have b38 : kb 0 t37 9 := kb_eq et37 (et37 ▸ kb_eq kvt37 (kK_s hkk 53 10 _ _ (by decide) (by decide) (kb_clt bpt (by decide) (by decide))))
        refine lv_i2l hx hb dX7_writeWords_140 rfl ?_
        refine lv_topl (fun t39 et39 => ?_)
        have b40 : kbl 0 t39 9 := kbl_eq et39 (kbl_i2l b38)
        refine va_last hx hb hK hP hD hS 17 3 rfl rfl (kb_in kc_5 (by decide) (by decide)) dX7_writeWords_141 (fun H locs hP hD hS => ?_)
        rw [cl_5] at hP hD
        have hP : va_P D vwCl (xX K r f a (va_up g_36.1 17 (va_up (g_36.1 17) 5 t39), g_36.2) tx) H := hP
        have hD : va_D A (xX K r f a (va_up g_36.1 17 (va_up (g_36.1 17) 5 t39), g_36.2) tx) := hD
        refine k_gen (P := fun z => va_P D vwCl (xX K r f a z tx) H ∧ va_D A (xX K r f a z tx) ∧ (xI f a) ∧ (gOK K z.2 tt) ∧ (xEk ([], [], []) f a g f a z)) ((va_up g_36.1 17 (va_up (g_36.1 17) 5 t39), g_36.2)) ⟨hP, hD, hI, hG, (xEk_g hE)⟩ (fun g_41 eg_41 hq => ?_)
        obtain ⟨hP, hD, hI, hG, hE⟩ := hq
        have hW5 : ∀ j, g_41.1 17 j = if j = 5 then t39 else g_36.1 17 j := fun j => by rw [← eg_41]; rfl
        refine lv_aload_n hx hb dX7_writeWords_142 rfl (lv_at hl 2 rfl) ?_
        refine va_get (D := D) (ci := 7) (v := .ref (r 16)) (C := RX7) (T := TX7) (N := 20) hx hb hg inC7 hown hK hP 1 rfl rfl 19 (by decide) (hg _ wt1_154) (fun _ h9 => h9) rfl dX7_writeWords_143 ?_
        refine va_get (D := D) (ci := 8) (v := .ref (r 17)) (C := RX8) (T := TX8) (N := 5) hx hb hg inC8 hown hK hP 16 rfl rfl 0 (by decide) (hg _ wt1_54) (fun _ h9 => h9) rfl dX7_writeWords_146 ?_
        refine lv_bipush (v := 6) hx hb dX7_writeWords_149 (by decide) ?_
        refine lv_aload_n hx hb dX7_writeWords_151 rfl (lv_at hl 2 rfl) ?_
        refine va_get (D := D) (ci := 7) (v := .ref (r 6)) (C := RX7) (T := TX7) (N := 20) hx hb hg inC7 hown hK hP 1 rfl rfl 5 (by decide) (hg _ wt1_97) (fun _ h9 => h9) rfl dX7_writeWords_152 ?_
        refine lv_iload_n hx hb dX7_writeWords_155 rfl (lv_at hl 4 rfl) ?_
        refine va_iald hx hb hK hP 6 0 rfl rfl (kb_in bpt (by decide) (by decide)) dX7_writeWords_156 ?_
        refine lv_topi (fun t42 et42 => ?_)
        have kvt42 : t42 = k (0 + pt.toNatClampNeg) := et42.trans ((sv_left hVw (kb_clt bpt (by decide) (by decide))))
        have b43 : kb 0 t42 99 := kb_eq et42 (et42 ▸ kb_eq kvt42 (kK_s hkk 0 10 _ _ (by decide) (by decide) (kb_clt bpt (by decide) (by decide))))
        refine lv_i2l hx hb dX7_writeWords_157 rfl ?_
        refine lv_topl (fun t44 et44 => ?_)
        have b45 : kbl 0 t44 99 := kbl_eq et44 (kbl_i2l b43)
        refine va_last hx hb hK hP hD hS 17 3 rfl rfl (kb_in kc_6 (by decide) (by decide)) dX7_writeWords_158 (fun H locs hP hD hS => ?_)
        rw [cl_6] at hP hD
        have hP : va_P D vwCl (xX K r f a (va_up g_41.1 17 (va_up (g_41.1 17) 6 t44), g_41.2) tx) H := hP
        have hD : va_D A (xX K r f a (va_up g_41.1 17 (va_up (g_41.1 17) 6 t44), g_41.2) tx) := hD
        refine k_gen (P := fun z => va_P D vwCl (xX K r f a z tx) H ∧ va_D A (xX K r f a z tx) ∧ (xI f a) ∧ (gOK K z.2 tt) ∧ (xEk ([], [], []) f a g f a z)) ((va_up g_41.1 17 (va_up (g_41.1 17) 6 t44), g_41.2)) ⟨hP, hD, hI, hG, (xEk_g hE)⟩ (fun g_46 eg_46 hq => ?_)
        obtain ⟨hP, hD, hI, hG, hE⟩ := hq
        have hW6 : ∀ j, g_46.1 17 j = if j = 6 then t44 else g_41.1 17 j := fun j => by rw [← eg_46]; rfl
        refine lv_aload_n hx hb dX7_writeWords_159 rfl (lv_at hl 2 rfl) ?_
        refine va_get (D := D) (ci := 7) (v := .ref (r 16)) (C := RX7) (T := TX7) (N := 20) hx hb hg inC7 hown hK hP 1 rfl rfl 19 (by decide) (hg _ wt1_154) (fun _ h9 => h9) rfl dX7_writeWords_160 ?_
        refine va_get (D := D) (ci := 8) (v := .ref (r 17)) (C := RX8) (T := TX8) (N := 5) hx hb hg inC8 hown hK hP 16 rfl rfl 0 (by decide) (hg _ wt1_54) (fun _ h9 => h9) rfl dX7_writeWords_163 ?_
        refine lv_bipush (v := 7) hx hb dX7_writeWords_166 (by decide) ?_
        refine lv_iload_n hx hb dX7_writeWords_168 rfl (lv_at hl 1 rfl) ?_
        refine lv_i2l hx hb dX7_writeWords_169 rfl ?_
        refine lv_topl (fun t47 et47 => ?_)
        have b48 : kbl 0 t47 6 := kbl_eq et47 (kbl_i2l b6)
        refine va_last hx hb hK hP hD hS 17 3 rfl rfl (kb_in kc_7 (by decide) (by decide)) dX7_writeWords_170 (fun H locs hP hD hS => ?_)
        rw [cl_7] at hP hD
        have hP : va_P D vwCl (xX K r f a (va_up g_46.1 17 (va_up (g_46.1 17) 7 t47), g_46.2) tx) H := hP
        have hD : va_D A (xX K r f a (va_up g_46.1 17 (va_up (g_46.1 17) 7 t47), g_46.2) tx) := hD
        refine k_gen (P := fun z => va_P D vwCl (xX K r f a z tx) H ∧ va_D A (xX K r f a z tx) ∧ (xI f a) ∧ (gOK K z.2 tt) ∧ (xEk ([], [], []) f a g f a z)) ((va_up g_46.1 17 (va_up (g_46.1 17) 7 t47), g_46.2)) ⟨hP, hD, hI, hG, (xEk_g hE)⟩ (fun g_49 eg_49 hq => ?_)
        obtain ⟨hP, hD, hI, hG, hE⟩ := hq
        have hW7 : ∀ j, g_49.1 17 j = if j = 7 then t47 else g_46.1 17 j := fun j => by rw [← eg_49]; rfl
        refine lv_aload_n hx hb dX7_writeWords_171 rfl (lv_at hl 2 rfl) ?_
        refine va_get (D := D) (ci := 7) (v := .ref (r 16)) (C := RX7) (T := TX7) (N := 20) hx hb hg inC7 hown hK hP 1 rfl rfl 19 (by decide) (hg _ wt1_154) (fun _ h9 => h9) rfl dX7_writeWords_172 ?_
        refine va_get (D := D) (ci := 8) (v := .ref (r 17)) (C := RX8) (T := TX8) (N := 5) hx hb hg inC8 hown hK hP 16 rfl rfl 0 (by decide) (hg _ wt1_54) (fun _ h9 => h9) rfl dX7_writeWords_175 ?_
        refine lv_bipush (v := 8) hx hb dX7_writeWords_178 (by decide) ?_
        refine lv_aload_n hx hb dX7_writeWords_180 rfl (lv_at hl 2 rfl) ?_
        refine va_get (D := D) (ci := 7) (v := .ref (r 11)) (C := RX7) (T := TX7) (N := 20) hx hb hg inC7 hown hK hP 1 rfl rfl 11 (by decide) (hg _ wt1_127) (fun _ h9 => h9) rfl dX7_writeWords_181 ?_
        refine lv_iconst (v := 0) hx hb dX7_writeWords_184 (by decide) ?_
        refine va_iald hx hb hK hP 11 0 rfl rfl (kb_in kc_0 (by decide) (by decide)) dX7_writeWords_185 ?_
        refine lv_topi (fun t50 et50 => ?_)
        rw [cl_0] at et50
        have kvt50 : t50 = k 22 := et50.trans ((sv_hour hVw))
        have b51 : kb 0 t50 1000000 := kb_eq et50 (et50 ▸ kb_eq kvt50 (kK_r hkk 22 _ _ (by decide) (by decide)))
        refine lv_i2l hx hb dX7_writeWords_186 rfl ?_
        refine lv_topl (fun t52 et52 => ?_)
        have b53 : kbl 0 t52 1000000 := kbl_eq et52 (kbl_i2l b51)
        refine va_last hx hb hK hP hD hS 17 3 rfl rfl (kb_in kc_8 (by decide) (by decide)) dX7_writeWords_187 (fun H locs hP hD hS => ?_)
        rw [cl_8] at hP hD
        have hP : va_P D vwCl (xX K r f a (va_up g_49.1 17 (va_up (g_49.1 17) 8 t52), g_49.2) tx) H := hP
        have hD : va_D A (xX K r f a (va_up g_49.1 17 (va_up (g_49.1 17) 8 t52), g_49.2) tx) := hD
        refine k_gen (P := fun z => va_P D vwCl (xX K r f a z tx) H ∧ va_D A (xX K r f a z tx) ∧ (xI f a) ∧ (gOK K z.2 tt) ∧ (xEk ([], [], []) f a g f a z)) ((va_up g_49.1 17 (va_up (g_49.1 17) 8 t52), g_49.2)) ⟨hP, hD, hI, hG, (xEk_g hE)⟩ (fun g_54 eg_54 hq => ?_)
        obtain ⟨hP, hD, hI, hG, hE⟩ := hq
        have hW8 : ∀ j, g_54.1 17 j = if j = 8 then t52 else g_49.1 17 j := fun j => by rw [← eg_54]; rfl
        refine lv_aload_n hx hb dX7_writeWords_188 rfl (lv_at hl 2 rfl) ?_
        refine va_get (D := D) (ci := 7) (v := .ref (r 16)) (C := RX7) (T := TX7) (N := 20) hx hb hg inC7 hown hK hP 1 rfl rfl 19 (by decide) (hg _ wt1_154) (fun _ h9 => h9) rfl dX7_writeWords_189 ?_
        refine va_get (D := D) (ci := 8) (v := .ref (r 17)) (C := RX8) (T := TX8) (N := 5) hx hb hg inC8 hown hK hP 16 rfl rfl 0 (by decide) (hg _ wt1_54) (fun _ h9 => h9) rfl dX7_writeWords_192 ?_
        refine lv_bipush (v := 9) hx hb dX7_writeWords_195 (by decide) ?_
        refine lv_aload_n hx hb dX7_writeWords_197 rfl (lv_at hl 2 rfl) ?_
        refine va_get (D := D) (ci := 7) (v := .ref (r 11)) (C := RX7) (T := TX7) (N := 20) hx hb hg inC7 hown hK hP 1 rfl rfl 11 (by decide) (hg _ wt1_127) (fun _ h9 => h9) rfl dX7_writeWords_198 ?_
        refine lv_iconst (v := 3) hx hb dX7_writeWords_201 (by decide) ?_
        refine va_iald hx hb hK hP 11 0 rfl rfl (kb_in kc_3 (by decide) (by decide)) dX7_writeWords_202 ?_
        refine lv_topi (fun t55 et55 => ?_)
        rw [cl_3] at et55
        have kvt55 : t55 = k 101 := et55.trans ((sv_mood hVw))
        have b56 : kb 0 t55 9 := kb_eq et55 (et55 ▸ kb_eq kvt55 (kK_r hkk 101 _ _ (by decide) (by decide)))
        refine lv_i2l hx hb dX7_writeWords_203 rfl ?_
        refine lv_topl (fun t57 et57 => ?_)
        have b58 : kbl 0 t57 9 := kbl_eq et57 (kbl_i2l b56)
        refine va_last hx hb hK hP hD hS 17 3 rfl rfl (kb_in kc_9 (by decide) (by decide)) dX7_writeWords_204 (fun H locs hP hD hS => ?_)
        rw [cl_9] at hP hD
        have hP : va_P D vwCl (xX K r f a (va_up g_54.1 17 (va_up (g_54.1 17) 9 t57), g_54.2) tx) H := hP
        have hD : va_D A (xX K r f a (va_up g_54.1 17 (va_up (g_54.1 17) 9 t57), g_54.2) tx) := hD
        refine k_gen (P := fun z => va_P D vwCl (xX K r f a z tx) H ∧ va_D A (xX K r f a z tx) ∧ (xI f a) ∧ (gOK K z.2 tt) ∧ (xEk ([], [], []) f a g f a z)) ((va_up g_54.1 17 (va_up (g_54.1 17) 9 t57), g_54.2)) ⟨hP, hD, hI, hG, (xEk_g hE)⟩ (fun g_59 eg_59 hq => ?_)
        obtain ⟨hP, hD, hI, hG, hE⟩ := hq
        have hW9 : ∀ j, g_59.1 17 j = if j = 9 then t57 else g_54.1 17 j := fun j => by rw [← eg_59]; rfl
        exact kV_ret hx hb hr hlocks hK hS dX7_writeWords_205 (f, a, g_59) hP hD ⟨hI, hG, hE, (fun j hj => by rcases (show j = 0 ∨ j = 1 ∨ j = 2 ∨ j = 3 ∨ j = 4 ∨ j = 5 ∨ j = 6 ∨ j = 7 ∨ j = 8 ∨ j = 9 by omega) with e | e | e | e | e | e | e | e | e | e; rw [e]; rw [hW9, if_neg (by decide), hW8, if_neg (by decide), hW7, if_neg (by decide), hW6, if_neg (by decide), hW5, if_neg (by decide), hW4, if_neg (by decide), hW3, if_neg (by decide), hW2, if_neg (by decide), hW1, if_neg (by decide), hW0, if_pos rfl, et11]; exact (kt_i2l _).trans rfl; rw [e]; rw [hW9, if_neg (by decide), hW8, if_neg (by decide), hW7, if_neg (by decide), hW6, if_neg (by decide), hW5, if_neg (by decide), hW4, if_neg (by decide), hW3, if_neg (by decide), hW2, if_neg (by decide), hW1, if_pos rfl, et16]; exact (kt_i2l _).trans (congrArg Int32.toInt kvt14); rw [e]; rw [hW9, if_neg (by decide), hW8, if_neg (by decide), hW7, if_neg (by decide), hW6, if_neg (by decide), hW5, if_neg (by decide), hW4, if_neg (by decide), hW3, if_neg (by decide), hW2, if_pos rfl, et21]; exact (kt_i2l _).trans (congrArg Int32.toInt kvt19); rw [e]; rw [hW9, if_neg (by decide), hW8, if_neg (by decide), hW7, if_neg (by decide), hW6, if_neg (by decide), hW5, if_neg (by decide), hW4, if_neg (by decide), hW3, if_pos rfl, et24]; exact (kt_i2l _).trans rfl; rw [e]; rw [hW9, if_neg (by decide), hW8, if_neg (by decide), hW7, if_neg (by decide), hW6, if_neg (by decide), hW5, if_neg (by decide), hW4, if_pos rfl, et34]; exact (kt_i2l _).trans (congrArg Int32.toInt (show t32 = crB k bd.toNatClampNeg pt.toNatClampNeg from by rw [et32, et31, kvt27, kvt29]; rfl)); rw [e]; rw [hW9, if_neg (by decide), hW8, if_neg (by decide), hW7, if_neg (by decide), hW6, if_neg (by decide), hW5, if_pos rfl, et39]; exact (kt_i2l _).trans (congrArg Int32.toInt kvt37); rw [e]; rw [hW9, if_neg (by decide), hW8, if_neg (by decide), hW7, if_neg (by decide), hW6, if_pos rfl, et44]; exact (kt_i2l _).trans (congrArg Int32.toInt kvt42); rw [e]; rw [hW9, if_neg (by decide), hW8, if_neg (by decide), hW7, if_pos rfl, et47]; exact (kt_i2l _).trans hot; rw [e]; rw [hW9, if_neg (by decide), hW8, if_pos rfl, et52]; exact (kt_i2l _).trans (congrArg Int32.toInt kvt50); rw [e]; rw [hW9, if_pos rfl, et57]; exact (kt_i2l _).trans (congrArg Int32.toInt kvt55))⟩
      · have h60 := (kc_nle c9)
        have b61 : kb 0 y1 5 := kr_lt1 h60 b5 b8 (by decide)
        have b62 : kb 1 t7 6 := kr_lt2 h60 b5 b8 (by decide)
        refine lv_iload hx hb dX7_writeWords_14 (lv_at hl 0 rfl) ?_
        refine lv_bipush (v := 6) hx hb dX7_writeWords_16 (by decide) ?_
        refine lv_icmp_ge (tgt := 47) hx hb dX7_writeWords_18 (by decide) (fun c63 => ?_) (fun c63 => ?_)
        · have h64 := (kc_le c63)
          exact kb_no (kr_le1 h64 kc_6 b61) (by decide)
        · have h65 := (kc_nle c63)
          refine lv_iload hx hb dX7_writeWords_21 (lv_at hl 0 rfl) ?_
          refine lv_iload_n hx hb dX7_writeWords_23 rfl (lv_at hl 3 rfl) ?_
          refine lv_icmp_eq (tgt := 41) hx hb dX7_writeWords_24 (by decide) (fun c66 => ?_) (fun c66 => ?_)
          · obtain ⟨t67, et67⟩ : ∃ z : Int32, z = y1 + Int32.ofInt 1 := ⟨_, rfl⟩
            have qt67 : t67.toInt = y1.toInt + 1 := by rw [et67]; exact km_inc b61 (by decide) (by decide)
            have b68 : kb 1 t67 6 := kb_inc (k := 1) qt67 b61
            refine lv_iinc (v := t67) (lv' := [(4, .int t67), (3, .int y2), (0, .ref (r 1)), (1, .int bd), (2, .int pt)]) hx hb dX7_writeWords_41 hl (k := 0) rfl et67.symm (by decide) rfl (fun ls hl => ?_)
            refine lv_goto (tgt := 5) hx hb dX7_writeWords_44 (by decide) ?_
            exact ihlp3 (nn + 1) _ _ _ t67 y2 (km_up hmlp3 qt67) (kb_w b68 (by decide) (by decide)) b6 (by have w1 := hvlp3_0; have w2 := qt67; omega) (by show y2.toInt = ((oth k bd pt nn + (if ¬ nI nn = bd ∧ k (16 + nn) = pt then 1 else 0) : Nat) : Int); rw [if_neg (fun q => q.1 (hnn.symm.trans c66))]; have w1 := hvlp3_1; omega) (by have w1 := hvlp3_0; have w2 := kc_nle c9; have w3 := kvit7; omega) hP hD hS (lv_sub hl [0, 1, 2, 3, 4] rfl)
          · refine lv_aload_n hx hb dX7_writeWords_27 rfl (lv_at hl 2 rfl) ?_
            refine va_get (D := D) (ci := 7) (v := .ref (r 10)) (C := RX7) (T := TX7) (N := 20) hx hb hg inC7 hown hK hP 1 rfl rfl 10 (by decide) (hg _ wt1_121) (fun _ h9 => h9) rfl dX7_writeWords_28 ?_
            refine lv_iload hx hb dX7_writeWords_31 (lv_at hl 0 rfl) ?_
            refine va_iald hx hb hK hP 10 0 rfl rfl (kb_in b61 (by decide) (by decide)) dX7_writeWords_33 ?_
            refine lv_topi (fun t69 et69 => ?_)
            have kvt69 : t69 = k (16 + y1.toNatClampNeg) := et69.trans ((sv_place hVw (kb_clt b61 (by decide) (by decide)) (by have w0 := kb_cl b61 (by decide); have w1 := kc_nle c9; have w2 := kvit7; omega)))
            have b70 : kb (-1) t69 9 := kb_eq et69 (et69 ▸ kb_eq kvt69 (kK_s hkk 16 6 _ _ (by decide) (by decide) (kb_clt b61 (by decide) (by decide))))
            have hpl : t69 = k (16 + nn) := by rw [kvt69, cl_nat hvlp3_0]
            refine lv_iload_n hx hb dX7_writeWords_34 rfl (lv_at hl 4 rfl) ?_
            refine lv_icmp_ne (tgt := 41) hx hb dX7_writeWords_35 (by decide) (fun c71 => ?_) (fun c71 => ?_)
            · obtain ⟨t72, et72⟩ : ∃ z : Int32, z = y1 + Int32.ofInt 1 := ⟨_, rfl⟩
              have qt72 : t72.toInt = y1.toInt + 1 := by rw [et72]; exact km_inc b61 (by decide) (by decide)
              have b73 : kb 1 t72 6 := kb_inc (k := 1) qt72 b61
              refine lv_iinc (v := t72) (lv' := [(4, .int t72), (3, .int y2), (0, .ref (r 1)), (1, .int bd), (2, .int pt)]) hx hb dX7_writeWords_41 hl (k := 0) rfl et72.symm (by decide) rfl (fun ls hl => ?_)
              refine lv_goto (tgt := 5) hx hb dX7_writeWords_44 (by decide) ?_
              exact ihlp3 (nn + 1) _ _ _ t72 y2 (km_up hmlp3 qt72) (kb_w b73 (by decide) (by decide)) b6 (by have w1 := hvlp3_0; have w2 := qt72; omega) (by show y2.toInt = ((oth k bd pt nn + (if ¬ nI nn = bd ∧ k (16 + nn) = pt then 1 else 0) : Nat) : Int); rw [if_neg (fun q => c71 (hpl.trans q.2))]; have w1 := hvlp3_1; omega) (by have w1 := hvlp3_0; have w2 := kc_nle c9; have w3 := kvit7; omega) hP hD hS (lv_sub hl [0, 1, 2, 3, 4] rfl)
            · have b74 : kb 0 t69 9 := kb_eq c71 bpt
              obtain ⟨t75, et75⟩ : ∃ z : Int32, z = y2 + Int32.ofInt 1 := ⟨_, rfl⟩
              have qt75 : t75.toInt = y2.toInt + 1 := by rw [et75]; exact km_inc b6 (by decide) (by decide)
              have b76 : kb 1 t75 7 := kb_inc (k := 1) qt75 b6
              refine lv_iinc (v := t75) (lv' := [(3, .int t75), (4, .int y1), (0, .ref (r 1)), (1, .int bd), (2, .int pt)]) hx hb dX7_writeWords_38 hl (k := 1) rfl et75.symm (by decide) rfl (fun ls hl => ?_)
              have b77 : kb 0 t75 6 := ⟨by have w1 := (b76).1; omega, by have w1 := oth_le k bd pt nn; have w2 := hvlp3_1; have w3 := (b61).2; have w4 := hvlp3_0; have w5 := qt75; omega⟩
              obtain ⟨t78, et78⟩ : ∃ z : Int32, z = y1 + Int32.ofInt 1 := ⟨_, rfl⟩
              have qt78 : t78.toInt = y1.toInt + 1 := by rw [et78]; exact km_inc b61 (by decide) (by decide)
              have b79 : kb 1 t78 6 := kb_inc (k := 1) qt78 b61
              refine lv_iinc (v := t78) (lv' := [(4, .int t78), (3, .int t75), (0, .ref (r 1)), (1, .int bd), (2, .int pt)]) hx hb dX7_writeWords_41 hl (k := 1) rfl et78.symm (by decide) rfl (fun ls hl => ?_)
              refine lv_goto (tgt := 5) hx hb dX7_writeWords_44 (by decide) ?_
              exact ihlp3 (nn + 1) _ _ _ t78 t75 (km_up hmlp3 qt78) (kb_w b79 (by decide) (by decide)) b77 (by have w1 := hvlp3_0; have w2 := qt78; omega) (by show t75.toInt = ((oth k bd pt nn + (if ¬ nI nn = bd ∧ k (16 + nn) = pt then 1 else 0) : Nat) : Int); rw [if_pos ⟨(fun q => c66 (hnn.trans q)), (hpl.symm.trans c71)⟩]; have w1 := hvlp3_1; have w2 := qt75; omega) (by have w1 := hvlp3_0; have w2 := kc_nle c9; have w3 := kvit7; omega) hP hD hS (lv_sub hl [0, 1, 2, 3, 4] rfl)
  exact lp3 (7) 0 _ _ _ 0 0 (by have h1 := (kc_0); unfold kb at h1; omega) (kb_w kc_0 (by decide) (by decide)) (kb_w kc_0 (by decide) (by decide)) (by decide +kernel) (by show (0 : Int32).toInt = ((0 : Nat) : Int); decide +kernel) ((kK_r hkk 103 0 6 (by decide) (by decide)).1) hP hD hS (lv_sub hl [0, 1, 2, 3, 4] rfl)
set_option maxHeartbeats 4000000 in
set_option maxRecDepth 100000 in
theorem z_askedN  (l : Launch) {D : va_G} {K : Nat → ClassId} (r : Nat → Nat) (f : Nat → Int32) (a : Nat → Nat → Int32) (g : xG) (tx tt : va_W) (hT : ∀ c ∈ tt, c ∈ tx) (hI : xI f a) (hG : gOK K g.2 tt) (kd : Int32) (x : Int32) (y_ : Int32) (bkd : kb 0 kd 3) (bx : kb 0 x 5) (by_ : kb 0 y_ 9) (k : Nat → Int32) (hVw : sV 32 2 f a k) (hkk : kK k) (DD : Nat → tE) (hL : lC K tt (g.2 15) k DD)  (hp0 : 0 ≤ x.toInt ∧ x.toInt < (k 103).toInt) (hp1 : 0 ≤ y_.toInt ∧ y_.toInt < (k 102).toInt) : kIG l yX7_asked (Cond.code yX7_asked cX7_asked 9 (some .int) :: kG) (rmD 3 0 0) D K [.ref (r 1), .int kd, .int x, .int y_] (xX K r f a g tx) (fun v (u : xS) => kb (-2147483648) v 2147483647 ∧ xI u.1 u.2.1 ∧ gOK K u.2.2.2 tt ∧ xEk ([], [], []) f a g u.1 u.2.1 u.2.2 ∧ v.toInt = askF DD k kd.toInt.toNat x y_) (fun u => xX K r u.1 u.2.1 u.2.2 tx) 0 0 := by
  refine kIE.of (cc := cX7_asked) (maxL := 9) (ret := (some .int)) (by decide) rfl (Nat.le_of_ble_eq_true rfl) ?_
  intro p e s m below meth c A hx hb hr hml hown hts hlocks hnm hK hP hD hS hA hV ls hl
  have hE : xEk ([], [], []) f a g f a g := xEk_rf
  have hg : ∀ w ∈ kG, w.before _ s = true := fun w h => hts w (List.mem_cons_of_mem _ h)
  have hown : s.vm.findClass RX7 = some m.cls := hown
  have hl : lv_has ls 9 [(0, .ref (r 1)), (1, .int kd), (2, .int x), (3, .int y_)] := hl
  refine lv_iload_n hx hb dX7_asked_0 rfl (lv_at hl 1 rfl) ?_
  refine lv_if_lt (tgt := 28) hx hb dX7_asked_1 (by decide) (fun c1 => ?_) (fun c1 => ?_)
  · have h2 := (kc_lt c1)
    exact kb_no (kr_lt1 h2 bkd kc_0 (H := (-1)) (by decide)) (by decide)
  · have h3 := (kc_nlt c1)
    refine lv_iload_n hx hb dX7_asked_4 rfl (lv_at hl 1 rfl) ?_
    obtain ⟨tt1, tt2, hz1, hT1, hz2, hT2⟩ := hV.2.1
    obtain ⟨tt3, hz3, hT3, hN3⟩ := hV.2.2.1
    refine va_getsN hx hb hz3 hS hown (va_Nw.use rfl hN3) (fun _ h => h) dX7_asked_5 ?_
    refine va_tlen (v := 4) hx hb hT3 hS (by decide +kernel) dX7_asked_8 ?_
    refine lv_icmp_ge (tgt := 28) hx hb dX7_asked_9 (by decide) (fun c4 => ?_) (fun c4 => ?_)
    · have h5 := (kc_le c4)
      exact kb_no (kr_le1 h5 kc_4 bkd) (by decide)
    · have h6 := (kc_nle c4)
      refine lv_aload_n hx hb dX7_asked_12 rfl (lv_at hl 0 rfl) ?_
      refine lv_iload_n hx hb dX7_asked_13 rfl (lv_at hl 2 rfl) ?_
      refine kIG.callW (As := [.int x]) (rest := []) ⟨hx, hb, hml, hown, hg⟩ (z_hasBuilderN l r f a g tx tt hT hI hG x  k hVw hkk ) (cwV 1 hg (kgV wt3_82 wt3_68 wt3_69 wt1_2 wt3_70) rfl rfl rfl (by decide +kernel) ⟨by decide, by decide⟩) hV hK hP hD hS hA (1) 7 rfl rfl rfl hl.1 rfl (Nat.le_of_ble_eq_true rfl) dX7_asked_14 ⟨Nat.le_refl _, Nat.le_refl _⟩ (fun v8 u9 H locs hw7 hP hD hS => ?_)
      have hP : va_P D vwCl (xX K r f a g tx) H := hP
      have hD : va_D A (xX K r f a g tx) := hD
      refine k_top (z := 1) (hw7.2.trans (if_pos hp0)) ?_
      refine lv_if_eq (tgt := 28) hx hb dX7_asked_17 (by decide) (fun c11 => ?_) (fun c11 => ?_)
      · exact kb_dj c11 kc_1 kc_0 (by decide)
      · refine lv_aload_n hx hb dX7_asked_20 rfl (lv_at hl 0 rfl) ?_
        refine lv_iload_n hx hb dX7_asked_21 rfl (lv_at hl 3 rfl) ?_
        refine kIG.callW (As := [.int y_]) (rest := []) ⟨hx, hb, hml, hown, hg⟩ (z_hasPartN l r f a g tx tt hT hI hG y_  k hVw hkk ) (cwV 1 hg (kgV wt3_83 wt3_36 wt3_37 wt1_2 wt3_38) rfl rfl rfl (by decide +kernel) ⟨by decide, by decide⟩) hV hK hP hD hS hA (1) 7 rfl rfl rfl hl.1 rfl (Nat.le_of_ble_eq_true rfl) dX7_asked_22 ⟨Nat.le_refl _, Nat.le_refl _⟩ (fun v13 u14 H locs hw12 hP hD hS => ?_)
        have hP : va_P D vwCl (xX K r f a g tx) H := hP
        have hD : va_D A (xX K r f a g tx) := hD
        refine k_top (z := 1) (hw12.2.trans (if_pos hp1)) ?_
        refine lv_if_ne (tgt := 30) hx hb dX7_asked_25 (by decide) (fun c16 => ?_) (fun c16 => ?_)
        · refine lv_aload_n hx hb dX7_asked_30 rfl (lv_at hl 0 rfl) ?_
          refine va_get (D := D) (ci := 7) (v := .int (f 50)) (C := RX7) (T := TX7) (N := 20) hx hb hg inC7 hown hK hP 1 rfl rfl 18 (by decide) (hg _ wt1_151) (fun _ h9 => h9) rfl dX7_asked_31 ?_
          refine lv_topi (fun t17 et17 => ?_)
          have kvt17 : t17 = k 106 := et17.trans ((sv_inForce hVw))
          have kvit17 : t17.toInt = (k 106).toInt := congrArg Int32.toInt kvt17
          have b18 : kb (-1) t17 5 := kb_eq kvt17 (kK_r hkk 106 _ _ (by decide) (by decide))
          refine lv_if_lt (tgt := 58) hx hb dX7_asked_34 (by decide) (fun c19 => ?_) (fun c19 => ?_)
          · have h20 := (kc_lt c19)
            have b21 : kb (-1) t17 (-1) := kr_lt1 h20 b18 kc_0 (by decide)
            refine lv_null hx hb dX7_asked_58 ?_
            refine lv_astoreN (lv' := [(4, .null), (0, .ref (r 1)), (1, .int kd), (2, .int x), (3, .int y_)]) hx hb dX7_asked_59 hl (by decide) rfl (fun ls hl => ?_)
            refine lv_aloadN hx hb dX7_asked_61 (lv_at hl 0 rfl) ?_
            refine lv_ifnonnullN hx hb dX7_asked_63 ?_
            have hnl : k 106 = -1 := Int32.toInt_inj.mp (by have w1 := kvit17; have w2 := (b21).2; have w3 := (kK_r hkk 106 (-1) 5 (by decide) (by decide)).1; have w4 : (-1 : Int32).toInt = -1 := (by decide +kernel); omega)
            refine lv_aload_n hx hb dX7_asked_66 rfl (lv_at hl 1 rfl) ?_
            refine lv_iload_n hx hb dX7_asked_67 rfl (lv_at hl 2 rfl) ?_
            refine lv_iload_n hx hb dX7_asked_68 rfl (lv_at hl 3 rfl) ?_
            refine lv_iload_n hx hb dX7_asked_69 rfl (lv_at hl 4 rfl) ?_
            refine kIG.callW (As := [.int kd, .int x, .int y_]) (rest := []) ⟨hx, hb, hml, hown, hg⟩ (z_withoutLawN l r f a g tx tt hT hI hG kd x y_ bkd bx by_ k hVw hkk ) (cwV 3 hg (kgV wt3_84 wt3_86 wp1_3 wt1_2 wt3_87) rfl rfl rfl (by decide +kernel) ⟨by decide, by decide⟩) hV hK hP hD hS hA (1) 7 rfl rfl rfl hl.1 rfl (Nat.le_of_ble_eq_true rfl) dX7_asked_70 ⟨Nat.le_refl _, Nat.le_refl _⟩ (fun v23 u24 H locs hw22 hP hD hS => ?_)
            have hP : va_P D vwCl (xX K r f a g tx) H := hP
            have hD : va_D A (xX K r f a g tx) := hD
            exact kI_ret (v := v23) hx hb hr hlocks rfl hK hS dX7_asked_73 (f, a, g) hP hD ⟨(kb_any v23), hI, hG, hE, (by unfold askF; rw [if_pos hnl]; exact hw22.2)⟩
          · have h25 := (kc_nlt c19)
            have b26 : kb 0 t17 5 := kr_le2 h25 kc_0 b18
            refine lv_aload_n hx hb dX7_asked_37 rfl (lv_at hl 0 rfl) ?_
            refine va_get (D := D) (ci := 7) (v := .int (f 50)) (C := RX7) (T := TX7) (N := 20) hx hb hg inC7 hown hK hP 1 rfl rfl 18 (by decide) (hg _ wt1_151) (fun _ h9 => h9) rfl dX7_asked_38 ?_
            refine k_top (z := t17) et17.symm ?_
            refine lv_bipush (v := 6) hx hb dX7_asked_41 (by decide) ?_
            refine lv_icmp_ge (tgt := 58) hx hb dX7_asked_43 (by decide) (fun c27 => ?_) (fun c27 => ?_)
            · have h28 := (kc_le c27)
              exact kb_no (kr_le1 h28 kc_6 b26) (by decide)
            · have h29 := (kc_nle c27)
              refine lv_aload_n hx hb dX7_asked_46 rfl (lv_at hl 0 rfl) ?_
              refine va_get (D := D) (ci := 7) (v := .ref (r 15)) (C := RX7) (T := TX7) (N := 20) hx hb hg inC7 hown hK hP 1 rfl rfl 16 (by decide) (hg _ wt1_147) (fun _ h9 => h9) rfl dX7_asked_47 ?_
              refine lv_aload_n hx hb dX7_asked_50 rfl (lv_at hl 0 rfl) ?_
              refine va_get (D := D) (ci := 7) (v := .int (f 50)) (C := RX7) (T := TX7) (N := 20) hx hb hg inC7 hown hK hP 1 rfl rfl 18 (by decide) (hg _ wt1_151) (fun _ h9 => h9) rfl dX7_asked_51 ?_
              refine k_top (z := t17) et17.symm ?_
              obtain ⟨t, ht, hgt, htx⟩ := hL (k 106).toInt.toNat (by have w1 := kvit17; have w2 := hkk.2.2; have w3 := (b26).1; omega)
              refine va_aldq hx hb hK hP 15 5 rfl rfl (kb_in b26 (by decide) (by decide)) dX7_asked_54 ?_
              refine k_tops (show g.2 15 t17.toNatClampNeg = _ by rw [show t17.toNatClampNeg = (k 106).toInt.toNat from (by have w1 := kvit17; have w2 := (b26).1; unfold Int32.toNatClampNeg; omega)]; exact hgt) ?_
              obtain ⟨jt_0, hjt_0⟩ := tIn_at (tIn_w hT ht) (k := 0) rfl
              obtain ⟨jt_1, hjt_1⟩ := tIn_at (tIn_w hT ht) (k := 1) rfl
              obtain ⟨jt_2, hjt_2⟩ := tIn_at (tIn_w hT ht) (k := 2) rfl
              obtain ⟨jt_3, hjt_3⟩ := tIn_at (tIn_w hT ht) (k := 3) rfl
              obtain ⟨jt_4, hjt_4⟩ := tIn_at (tIn_w hT ht) (k := 4) rfl
              have hnt : (nI t.2.2.2).toInt = (t.2.2.2 : Int) := kn_to (by have w1 := ht.1; omega)
              have hne : ¬ k 106 = -1 := fun q => by have w1 := congrArg Int32.toInt q; have w2 : (-1 : Int32).toInt = -1 := (by decide +kernel); have w3 := kvit17; have w4 := (b26).1; omega
              refine lv_goto (tgt := 59) hx hb dX7_asked_55 (by decide) ?_
              refine lv_astore (lv' := [(4, .ref (t.1 0)), (0, .ref (r 1)), (1, .int kd), (2, .int x), (3, .int y_)]) hx hb dX7_asked_59 hl (by decide) rfl (fun ls hl => ?_)
              refine lv_aload hx hb dX7_asked_61 (lv_at hl 0 rfl) ?_
              refine lv_ifnonnull (tgt := 74) hx hb dX7_asked_63 (by decide) ?_
              refine lv_iconst (v := 0) hx hb dX7_asked_74 (by decide) ?_
              refine lv_istore (lv' := [(5, .int 0), (4, .ref (t.1 0)), (0, .ref (r 1)), (1, .int kd), (2, .int x), (3, .int y_)]) hx hb dX7_asked_75 hl (by decide) rfl (fun ls hl => ?_)
              refine lv_aload hx hb dX7_asked_77 (lv_at hl 1 rfl) ?_
              refine va_get (D := D) (ci := 10) (v := .int (t.2.1 0)) (C := RX10) (T := TX10) (N := 6) hx hb hg inC10 hown hK hP (jt_0 + 95) hjt_0 rfl 0 (by decide) (hg _ wt2_42) (fun _ h9 => h9) rfl dX7_asked_79 ?_
              refine lv_topi (fun t30 et30 => ?_)
              have b31 : kb 0 t30 12 := kb_eq et30 ht.2.2.1
              refine lv_bipush (v := 12) hx hb dX7_asked_82 (by decide) ?_
              refine va_mmin hx hb (hml.trans hl.1.symm) hown (hg _ wt3_51) (hg _ wt3_52) (hg _ wt1_9) (hg _ wt3_53) (by decide) (Nat.le_of_ble_eq_true rfl) (by decide) (by decide) dX7_asked_84 ?_
              refine lv_topi (fun t32 et32 => ?_)
              have b33 : kb 0 t32 12 := kb_eq et32 (kb_mn b31 kc_12 (by decide) (by decide) (by decide) (by decide))
              have hcn : t32.toInt = ((DD (k 106).toInt.toNat).1 : Int) := by rw [et32]; exact min_S (by rw [et30]; exact htx.1) (by have w1 := (b31).2; have w2 : (12 : Int32).toInt = 12 := (by decide +kernel); omega)
              refine lv_iconst (v := 1) hx hb dX7_asked_87 (by decide) ?_
              refine lv_isub hx hb dX7_asked_88 ?_
              refine lv_topi (fun t34 et34 => ?_)
              have b35 : kb (-1) t34 11 := kb_eq et34 (kb_sub b33 kc_1 (by decide) (by decide))
              have qt34 : t34.toInt = t32.toInt - 1 := by rw [et34]; exact kt_subc b33 kc_1 (by decide) (by decide)
              refine lv_istore (lv' := [(6, .int t34), (5, .int 0), (4, .ref (t.1 0)), (0, .ref (r 1)), (1, .int kd), (2, .int x), (3, .int y_)]) hx hb dX7_asked_89 hl (by decide) rfl (fun ls hl => ?_)
              have lp41 : ∀ (n42 : Nat) (F38 : Nat → Int32) (B39 : Nat → Nat → Int32) (G40 : xG) (H : Heap) (locs : List Loc) (ls : Array Slot) (y36 : Int32) (y37 : Int32), (y36.toInt + 1 < (n42 : Int)) → (xI F38 B39) → (gOK K G40.2 tt) → (xEk ([], [], []) f a g F38 B39 G40) → (kb (-1) y36 11) → (kb 0 y37 1) → (∀ j : Nat, y36.toInt < (j : Int) → j < (DD (k 106).toInt.toNat).1 → clT (DD (k 106).toInt.toNat) (kHd kd.toInt.toNat) (lwW k x y_) (kHi kd.toInt.toNat) j = none) → (y37 = 0 ∨ ∀ j, j < 10 → (G40.1 17 j).toInt = lwW k x y_ j) → (y36.toInt < ((DD (k 106).toInt.toNat).1 : Int)) → va_P D vwCl (xX K r F38 B39 G40 tx) H → va_D A (xX K r F38 B39 G40 tx) → va_S A s.heap H locs → lv_has ls 9 [(6, .int y36), (5, .int y37), (4, .ref (t.1 0)), (0, .ref (r 1)), (1, .int kd), (2, .int x), (3, .int y_)] → W p l e (rmD 3 0 0) s m ([.ref (r 1), .int kd, .int x, .int y_] : List Value).toArray below meth c H locs 0 0 (kQi D (tysK K) (fun v (u : xS) => kb (-2147483648) v 2147483647 ∧ xI u.1 u.2.1 ∧ gOK K u.2.2.2 tt ∧ xEk ([], [], []) f a g u.1 u.2.1 u.2.2 ∧ v.toInt = askF DD k kd.toInt.toNat x y_) (fun u => xX K r u.1 u.2.1 u.2.2 tx) A below ([.ref (r 1), .int kd, .int x, .int y_] : List Value).toArray s 0 0) (F0 m 91 ls []) := by
                intro n42
                induction n42 with
                | zero =>
                  intro  F38 B39 G40  H locs ls y36 y37 hmlp41 hI hG hE b43 b44 hvlp41_0 hvlp41_1 hvlp41_2 hP hD hS hl
                  exact (by have h1 := b43.1; have h2 := hmlp41; omega : False).elim
                | succ n42 ihlp41 =>
                  intro  F38 B39 G40  H locs ls y36 y37 hmlp41 hI hG hE b43 b44 hvlp41_0 hvlp41_1 hvlp41_2 hP hD hS hl
                  have hno := hvlp41_0
                  have hwr := hvlp41_1
                  have hlt6 := hvlp41_2
                  refine lv_iload hx hb dX7_asked_91 (lv_at hl 0 rfl) ?_
                  refine lv_if_lt (tgt := 208) hx hb dX7_asked_93 (by decide) (fun c45 => ?_) (fun c45 => ?_)
                  · have h46 := (kc_lt c45)
                    have b47 : kb (-1) y36 (-1) := kr_lt1 h46 b43 kc_0 (by decide)
                    refine lv_aload_n hx hb dX7_asked_208 rfl (lv_at hl 3 rfl) ?_
                    refine lv_iload_n hx hb dX7_asked_209 rfl (lv_at hl 4 rfl) ?_
                    refine lv_iload_n hx hb dX7_asked_210 rfl (lv_at hl 5 rfl) ?_
                    refine lv_iload_n hx hb dX7_asked_211 rfl (lv_at hl 6 rfl) ?_
                    refine kIG.callW (As := [.int kd, .int x, .int y_]) (rest := []) ⟨hx, hb, hml, hown, hg⟩ (z_withoutLawN l r F38 B39 G40 tx tt hT hI hG kd x y_ bkd bx by_ k (sV_cg hVw (hE.1 32 rfl) (hE.1 38 rfl) (hE.1 44 rfl) (hE.1 49 rfl) (hE.1 50 rfl) (fun j hj => by rcases (show j = 0 ∨ j = 1 ∨ j = 2 ∨ j = 3 ∨ j = 4 ∨ j = 5 ∨ j = 6 ∨ j = 7 ∨ j = 8 ∨ j = 9 ∨ j = 10 ∨ j = 11 ∨ j = 12 by omega) with e | e | e | e | e | e | e | e | e | e | e | e | e <;> (subst e; exact hE.2.1 _ rfl))) hkk ) (cwV 3 hg (kgV wt3_84 wt3_86 wp1_3 wt1_2 wt3_87) rfl rfl rfl (by decide +kernel) ⟨by decide, by decide⟩) hV hK hP hD hS hA (1) 7 rfl rfl rfl hl.1 rfl (Nat.le_of_ble_eq_true rfl) dX7_asked_212 ⟨Nat.le_refl _, Nat.le_refl _⟩ (fun v49 u50 H locs hw48 hP hD hS => ?_)
                    have hP : va_P D vwCl (xX K r F38 B39 G40 tx) H := hP
                    have hD : va_D A (xX K r F38 B39 G40 tx) := hD
                    exact kI_ret (v := v49) hx hb hr hlocks rfl hK hS dX7_asked_215 (F38, B39, G40) hP hD ⟨(kb_any v49), hI, hG, hE, (by unfold askF; rw [if_neg hne]; unfold lwV; rw [lastOf_n (c := 0) (Nat.zero_le _) (fun j _ h2 => hno j (by have w1 := (b47).2; omega) h2)]; exact hw48.2)⟩
                  · have h51 := (kc_nlt c45)
                    have b52 : kb 0 y36 11 := kr_le2 h51 kc_0 b43
                    obtain ⟨cc, hcc⟩ : ∃ cc : Nat, y36.toInt = (cc : Int) := ⟨y36.toInt.toNat, by have w1 := (b52).1; omega⟩
                    have hccn : cc < (DD (k 106).toInt.toNat).1 := by omega
                    obtain ⟨n0, n1, n2, n3, hn0, hn1, hn2, hn3, l01, l12, l23, l3s, hkd, htm, hq1, hq2, hq3⟩ := htx.2.2 cc hccn
                    have hcl6 : y36.toNatClampNeg = cc := cl_nat hcc
                    have hc6n : y36.toInt.toNat = cc := by omega
                    refine lv_aload hx hb dX7_asked_96 (lv_at hl 2 rfl) ?_
                    refine va_get (D := D) (ci := 10) (v := .ref (t.1 1)) (C := RX10) (T := TX10) (N := 6) hx hb hg inC10 hown hK hP (jt_0 + 95) hjt_0 rfl 1 (by decide) (hg _ wt2_45) (fun _ h9 => h9) rfl dX7_asked_98 ?_
                    refine lv_iload hx hb dX7_asked_101 (lv_at hl 0 rfl) ?_
                    refine va_iald hx hb hK hP (jt_1 + 95) 0 hjt_1 rfl (kb_in b52 (by decide) (by decide)) dX7_asked_103 ?_
                    refine lv_topi (fun t53 et53 => ?_)
                    have hkt : t53.toInt = ((DD (k 106).toInt.toNat).2.2.1 cc).toInt - 2004 := by rw [et53, hcl6]; exact hkd
                    refine lv_iload_n hx hb dX7_asked_104 rfl (lv_at hl 4 rfl) ?_
                    refine lv_icmp_eq (tgt := 111) hx hb dX7_asked_105 (by decide) (fun c54 => ?_) (fun c54 => ?_)
                    · have b55 : kb 0 t53 3 := kb_eq c54 bkd
                      have hhd : (DD (k 106).toInt.toNat).2.2.1 cc = (kHd kd.toInt.toNat) := hd_eq bkd (by have w1 := congrArg Int32.toInt c54; omega)
                      refine lv_iload hx hb dX7_asked_111 (lv_at hl 1 rfl) ?_
                      refine lv_if_ne (tgt := 125) hx hb dX7_asked_113 (by decide) (fun c56 => ?_) (fun c56 => ?_)
                      · have b57 : kb 1 y37 1 := kr_nel c56 b44 kc_0 (by decide)
                        have hwd : ∀ j, j < 10 → (G40.1 17 j).toInt = lwW k x y_ j := hwr.resolve_left c56
                        refine lv_aload hx hb dX7_asked_125 (lv_at hl 2 rfl) ?_
                        refine lv_iload hx hb dX7_asked_127 (lv_at hl 0 rfl) ?_
                        refine lv_iconst (v := 2) hx hb dX7_asked_129 (by decide) ?_
                        refine lv_aload_n hx hb dX7_asked_130 rfl (lv_at hl 3 rfl) ?_
                        refine va_get (D := D) (ci := 7) (v := .ref (r 16)) (C := RX7) (T := TX7) (N := 20) hx hb hg inC7 hown hK hP 1 rfl rfl 19 (by decide) (hg _ wt1_154) (fun _ h9 => h9) rfl dX7_asked_131 ?_
                        refine va_get (D := D) (ci := 8) (v := .ref (r 17)) (C := RX8) (T := TX8) (N := 5) hx hb hg inC8 hown hK hP 16 rfl rfl 0 (by decide) (hg _ wt1_54) (fun _ h9 => h9) rfl dX7_asked_134 ?_
                        refine lv_aload_n hx hb dX7_asked_137 rfl (lv_at hl 3 rfl) ?_
                        refine va_get (D := D) (ci := 7) (v := .ref (r 16)) (C := RX7) (T := TX7) (N := 20) hx hb hg inC7 hown hK hP 1 rfl rfl 19 (by decide) (hg _ wt1_154) (fun _ h9 => h9) rfl dX7_asked_138 ?_
                        refine va_get (D := D) (ci := 8) (v := .ref (r 18)) (C := RX8) (T := TX8) (N := 5) hx hb hg inC8 hown hK hP 16 rfl rfl 1 (by decide) (hg _ wt1_57) (fun _ h9 => h9) rfl dX7_asked_141 ?_
                        refine kLG.callW (As := [.int y36, .int 2, .ref (r 17), .ref (r 18)]) (rest := []) ⟨hx, hb, hml, hown, hg⟩ (z_reckonN l r F38 B39 G40 tx tt hT hI hG y36 2 b52 (kb_w kc_2 (by decide) (by decide)) t ht ((DD (k 106).toInt.toNat).2.2.2.2.2.2 cc) (lwW k x y_) n2 n3 (by have kz : (2 : Int32).toInt.toNat = 2 := (by decide +kernel); rw [hc6n, kz]; exact hn2) (by have kz : (2 : Int32).toInt.toNat = 2 := (by decide +kernel); rw [hc6n, kz]; exact hn3) ⟨l23, by omega⟩ hq3 hwd (lwW_b hkk (bx) (by_))) (cwV 4 hg (kgV wt3_96 wt3_97 wt3_98 wt1_8 wt3_99) rfl rfl rfl (by decide +kernel) ⟨by decide, by decide⟩) hV hK hP hD hS hA (jt_0 + 95) 10 rfl hjt_0 rfl hl.1 rfl (Nat.le_of_ble_eq_true rfl) dX7_asked_144 ⟨Nat.le_refl _, Nat.le_refl _⟩ (fun v59 u60 H locs hw58 hP hD hS => ?_)
                        obtain ⟨f61, a62, g63⟩ := u60
                        have hP : va_P D vwCl (xX K r f61 a62 g63 tx) H := hP
                        have hD : va_D A (xX K r f61 a62 g63 tx) := hD
                        have hI : xI f61 a62 := hw58.2.1
                        have hG : gOK K g63.2 tt := hw58.2.2.1
                        have eE64 : xEk ([], [], []) F38 B39 G40 f61 a62 g63 := hw58.2.2.2.1
                        have hE : xEk ([], [], []) f a g f61 a62 g63 := xEk_tr hE eE64
                        have hrk65 := hw58.2.2.2.2.1
                        have hwd : ∀ j, j < 10 → (g63.1 17 j).toInt = lwW k x y_ j := hw58.2.2.2.2.2.2
                        refine lv_lconst (v := 1) hx hb dX7_asked_147 (by decide) ?_
                        refine W.lcmp hx hb dX7_asked_148 ?_
                        refine lv_topi (fun t66 et66 => ?_)
                        refine lv_if_ne (tgt := 202) hx hb dX7_asked_149 (by decide) (fun c67 => ?_) (fun c67 => ?_)
                        · have h68 := klc_ne (et66 ▸ c67)
                          have h3n : ¬ (DD (k 106).toInt.toNat).2.2.2.2.2.2 cc (lwW k x y_) = some 1 := (fun q => h68 (Int64.toInt_inj.mp (by rw [hrk65, q]; decide +kernel)))
                          obtain ⟨t69, et69⟩ : ∃ z : Int32, z = y36 + Int32.ofInt (-1) := ⟨_, rfl⟩
                          have qt69 : t69.toInt = y36.toInt - 1 := by rw [et69]; exact km_dec b52 (by decide)
                          have b70 : kb (-1) t69 10 := kb_inc (k := (-1)) qt69 b52
                          refine lv_iinc (v := t69) (lv' := [(6, .int t69), (5, .int y37), (4, .ref (t.1 0)), (0, .ref (r 1)), (1, .int kd), (2, .int x), (3, .int y_)]) hx hb dX7_asked_202 hl (k := 0) rfl et69.symm (by decide) rfl (fun ls hl => ?_)
                          refine lv_goto (tgt := 91) hx hb dX7_asked_205 (by decide) ?_
                          exact ihlp41  f61 a62 g63 _ _ _ t69 y37 (km_dn hmlp41 qt69) hI hG hE (kb_w b70 (by decide) (by decide)) (kb_w b57 (by decide) (by decide)) (fun j h1 h2 => by by_cases e : j = cc; (rw [e]; exact (by unfold clT; rw [if_neg (fun q => h3n q.2)])); exact hno j (by have w1 := qt69; omega) h2) (Or.inr hwd) (by have w2 := qt69; omega) hP hD hS (lv_sub hl [0, 1, 2, 3, 4, 5, 6] rfl)
                        · have h71 := klc_eq (et66 ▸ c67)
                          have h31 : (DD (k 106).toInt.toNat).2.2.2.2.2.2 cc (lwW k x y_) = some 1 := (by have w1 := congrArg Int64.toInt h71; have w2 : (1 : Int64).toInt = 1 := (by decide +kernel); rw [w2, hrk65] at w1; exact enc_i w1 (by decide))
                          refine lv_aload hx hb dX7_asked_152 (lv_at hl 2 rfl) ?_
                          refine lv_iload hx hb dX7_asked_154 (lv_at hl 0 rfl) ?_
                          refine lv_iconst (v := 0) hx hb dX7_asked_156 (by decide) ?_
                          refine lv_aload_n hx hb dX7_asked_157 rfl (lv_at hl 3 rfl) ?_
                          refine va_get (D := D) (ci := 7) (v := .ref (r 16)) (C := RX7) (T := TX7) (N := 20) hx hb hg inC7 hown hK hP 1 rfl rfl 19 (by decide) (hg _ wt1_154) (fun _ h9 => h9) rfl dX7_asked_158 ?_
                          refine va_get (D := D) (ci := 8) (v := .ref (r 17)) (C := RX8) (T := TX8) (N := 5) hx hb hg inC8 hown hK hP 16 rfl rfl 0 (by decide) (hg _ wt1_54) (fun _ h9 => h9) rfl dX7_asked_161 ?_
                          refine lv_aload_n hx hb dX7_asked_164 rfl (lv_at hl 3 rfl) ?_
                          refine va_get (D := D) (ci := 7) (v := .ref (r 16)) (C := RX7) (T := TX7) (N := 20) hx hb hg inC7 hown hK hP 1 rfl rfl 19 (by decide) (hg _ wt1_154) (fun _ h9 => h9) rfl dX7_asked_165 ?_
                          refine va_get (D := D) (ci := 8) (v := .ref (r 18)) (C := RX8) (T := TX8) (N := 5) hx hb hg inC8 hown hK hP 16 rfl rfl 1 (by decide) (hg _ wt1_57) (fun _ h9 => h9) rfl dX7_asked_168 ?_
                          refine kLG.callW (As := [.int y36, .int 0, .ref (r 17), .ref (r 18)]) (rest := []) ⟨hx, hb, hml, hown, hg⟩ (z_reckonN l r f61 a62 g63 tx tt hT hI hG y36 0 b52 (kb_w kc_0 (by decide) (by decide)) t ht ((DD (k 106).toInt.toNat).2.2.2.2.1 cc) (lwW k x y_) n0 n1 (by have kz : (0 : Int32).toInt.toNat = 0 := (by decide +kernel); rw [hc6n, kz]; exact hn0) (by have kz : (0 : Int32).toInt.toNat = 0 := (by decide +kernel); rw [hc6n, kz]; exact hn1) ⟨l01, by omega⟩ hq1 hwd (lwW_b hkk (bx) (by_))) (cwV 4 hg (kgV wt3_96 wt3_97 wt3_98 wt1_8 wt3_99) rfl rfl rfl (by decide +kernel) ⟨by decide, by decide⟩) hV hK hP hD hS hA (jt_0 + 95) 10 rfl hjt_0 rfl hl.1 rfl (Nat.le_of_ble_eq_true rfl) dX7_asked_171 ⟨Nat.le_refl _, Nat.le_refl _⟩ (fun v73 u74 H locs hw72 hP hD hS => ?_)
                          obtain ⟨f75, a76, g77⟩ := u74
                          have hP : va_P D vwCl (xX K r f75 a76 g77 tx) H := hP
                          have hD : va_D A (xX K r f75 a76 g77 tx) := hD
                          have hI : xI f75 a76 := hw72.2.1
                          have hG : gOK K g77.2 tt := hw72.2.2.1
                          have eE78 : xEk ([], [], []) f61 a62 g63 f75 a76 g77 := hw72.2.2.2.1
                          have hE : xEk ([], [], []) f a g f75 a76 g77 := xEk_tr hE eE78
                          have hrk79 := hw72.2.2.2.2.1
                          have hwd : ∀ j, j < 10 → (g77.1 17 j).toInt = lwW k x y_ j := hw72.2.2.2.2.2.2
                          refine lv_lstore (lv' := [(7, .long v73), (6, .int y36), (5, .int y37), (4, .ref (t.1 0)), (0, .ref (r 1)), (1, .int kd), (2, .int x), (3, .int y_)]) hx hb dX7_asked_174 hl (by decide) rfl (fun ls hl => ?_)
                          refine lv_lload hx hb dX7_asked_176 (lv_at hl 0 rfl) ?_
                          refine lv_ldc2 (v := (-1000000000000)) hx hb hown (hg _ wt3_106) dX7_asked_178 ?_
                          refine W.lcmp hx hb dX7_asked_181 ?_
                          refine lv_topi (fun t80 et80 => ?_)
                          refine lv_if_eq (tgt := 202) hx hb dX7_asked_182 (by decide) (fun c81 => ?_) (fun c81 => ?_)
                          · have h82 := klc_eq (et80 ▸ c81)
                            have hb0 : (DD (k 106).toInt.toNat).2.2.2.2.1 cc (lwW k x y_) = none := enc_nn (by rw [← hrk79, h82]; decide +kernel) hw72.2.2.2.2.2.1
                            obtain ⟨t83, et83⟩ : ∃ z : Int32, z = y36 + Int32.ofInt (-1) := ⟨_, rfl⟩
                            have qt83 : t83.toInt = y36.toInt - 1 := by rw [et83]; exact km_dec b52 (by decide)
                            have b84 : kb (-1) t83 10 := kb_inc (k := (-1)) qt83 b52
                            refine lv_iinc (v := t83) (lv' := [(6, .int t83), (7, .long v73), (5, .int y37), (4, .ref (t.1 0)), (0, .ref (r 1)), (1, .int kd), (2, .int x), (3, .int y_)]) hx hb dX7_asked_202 hl (k := 1) rfl et83.symm (by decide) rfl (fun ls hl => ?_)
                            refine lv_goto (tgt := 91) hx hb dX7_asked_205 (by decide) ?_
                            exact ihlp41  f75 a76 g77 _ _ _ t83 y37 (km_dn hmlp41 qt83) hI hG hE (kb_w b84 (by decide) (by decide)) (kb_w b57 (by decide) (by decide)) (fun j h1 h2 => by by_cases e : j = cc; (rw [e]; exact (by unfold clT; rw [if_pos ⟨hhd, h31⟩, hb0]; rfl)); exact hno j (by have w1 := qt83; omega) h2) (Or.inr hwd) (by have w2 := qt83; omega) hP hD hS (lv_sub hl [0, 2, 3, 4, 5, 6, 7] rfl)
                          · have h85 := klc_ne (et80 ▸ c81)
                            have htold : (DD (k 106).toInt.toNat).2.2.2.2.1 cc (lwW k x y_) = some v73.toInt := enc_i hrk79.symm (fun q => h85 (Int64.toInt_inj.mp (q.trans (by decide +kernel))))
                            refine lv_lconst (v := 0) hx hb dX7_asked_185 (by decide) ?_
                            refine va_getsN hx hb hz3 hS hown (va_Nw.use rfl hN3) (fun _ h => h) dX7_asked_186 ?_
                            refine lv_iload_n hx hb dX7_asked_189 rfl (lv_at hl 5 rfl) ?_
                            refine va_ti (v := .int (mt0 kd.toNatClampNeg)) hx hb hT3 hS (kb_in bkd (by decide) (by decide)) rfl dX7_asked_190 ?_
                            refine lv_topi (fun t86 et86 => ?_)
                            refine lv_i2l hx hb dX7_asked_191 rfl ?_
                            refine lv_topl (fun t87 et87 => ?_)
                            refine lv_lload hx hb dX7_asked_192 (lv_at hl 0 rfl) ?_
                            refine va_mmin_long hx hb (hml.trans hl.1.symm) hown (hg _ wt3_107) (hg _ wt3_108) (hg _ wt1_9) (hg _ wt3_109) (by decide) (Nat.le_of_ble_eq_true rfl) (by decide) (by decide) dX7_asked_194 ?_
                            refine lv_topl (fun t88 et88 => ?_)
                            refine va_mmax_long hx hb (hml.trans hl.1.symm) hown (hg _ wt3_110) (hg _ wt3_111) (hg _ wt1_9) (hg _ wt3_112) (by decide) (Nat.le_of_ble_eq_true rfl) (by decide) (by decide) dX7_asked_197 ?_
                            refine lv_topl (fun t89 et89 => ?_)
                            refine lv_l2i hx hb dX7_asked_200 rfl ?_
                            refine lv_topi (fun t90 et90 => ?_)
                            have hclp : t90.toInt = max 0 (min (kHi kd.toInt.toNat) v73.toInt) := cl_p bkd et86 et87 et88 et89 et90
                            exact kI_ret (v := t90) hx hb hr hlocks rfl hK hS dX7_asked_201 (f75, a76, g77) hP hD ⟨(kb_any t90), hI, hG, hE, (by unfold askF; rw [if_neg hne]; unfold lwV; rw [lastOf_n (c := cc + 1) (by omega) (fun j h1 h2 => hno j (by omega) h2), lastOf_s]; unfold clT; rw [if_pos ⟨hhd, h31⟩, htold]; exact hclp)⟩
                      · have b91 : kb 0 y37 0 := kb_eq c56 kc_0
                        refine lv_aload_n hx hb dX7_asked_116 rfl (lv_at hl 3 rfl) ?_
                        refine lv_iload_n hx hb dX7_asked_117 rfl (lv_at hl 5 rfl) ?_
                        refine lv_iload_n hx hb dX7_asked_118 rfl (lv_at hl 6 rfl) ?_
                        refine kVG.callW (As := [.int x, .int y_]) (rest := []) ⟨hx, hb, hml, hown, hg⟩ (z_writeWordsN l r F38 B39 G40 tx tt hT hI hG x y_ bx by_ k (sV_cg hVw (hE.1 32 rfl) (hE.1 38 rfl) (hE.1 44 rfl) (hE.1 49 rfl) (hE.1 50 rfl) (fun j hj => by rcases (show j = 0 ∨ j = 1 ∨ j = 2 ∨ j = 3 ∨ j = 4 ∨ j = 5 ∨ j = 6 ∨ j = 7 ∨ j = 8 ∨ j = 9 ∨ j = 10 ∨ j = 11 ∨ j = 12 by omega) with e | e | e | e | e | e | e | e | e | e | e | e | e <;> (subst e; exact hE.2.1 _ rfl))) hkk ) (cwV 2 hg (kgV wt3_92 wt3_94 wp1_5 wt1_2 wt3_95) rfl rfl rfl (by decide +kernel) ⟨by decide, by decide⟩) hV hK hP hD hS hA (1) 7 rfl rfl rfl hl.1 rfl (Nat.le_of_ble_eq_true rfl) dX7_asked_119 ⟨Nat.le_refl _, Nat.le_refl _⟩ (fun u94 H locs hw92 hP hD hS => ?_)
                        obtain ⟨f95, a96, g97⟩ := u94
                        have hP : va_P D vwCl (xX K r f95 a96 g97 tx) H := hP
                        have hD : va_D A (xX K r f95 a96 g97 tx) := hD
                        have hI : xI f95 a96 := hw92.1
                        have hG : gOK K g97.2 tt := hw92.2.1
                        have eE98 : xEk ([], [], []) F38 B39 G40 f95 a96 g97 := hw92.2.2.1
                        have hE : xEk ([], [], []) f a g f95 a96 g97 := xEk_tr hE eE98
                        have hwd : ∀ j, j < 10 → (g97.1 17 j).toInt = lwW k x y_ j := hw92.2.2.2
                        refine lv_iconst (v := 1) hx hb dX7_asked_122 (by decide) ?_
                        refine lv_istore (lv' := [(5, .int 1), (6, .int y36), (4, .ref (t.1 0)), (0, .ref (r 1)), (1, .int kd), (2, .int x), (3, .int y_)]) hx hb dX7_asked_123 hl (by decide) rfl (fun ls hl => ?_)
                        refine lv_aload hx hb dX7_asked_125 (lv_at hl 2 rfl) ?_
                        refine lv_iload hx hb dX7_asked_127 (lv_at hl 1 rfl) ?_
                        refine lv_iconst (v := 2) hx hb dX7_asked_129 (by decide) ?_
                        refine lv_aload_n hx hb dX7_asked_130 rfl (lv_at hl 3 rfl) ?_
                        refine va_get (D := D) (ci := 7) (v := .ref (r 16)) (C := RX7) (T := TX7) (N := 20) hx hb hg inC7 hown hK hP 1 rfl rfl 19 (by decide) (hg _ wt1_154) (fun _ h9 => h9) rfl dX7_asked_131 ?_
                        refine va_get (D := D) (ci := 8) (v := .ref (r 17)) (C := RX8) (T := TX8) (N := 5) hx hb hg inC8 hown hK hP 16 rfl rfl 0 (by decide) (hg _ wt1_54) (fun _ h9 => h9) rfl dX7_asked_134 ?_
                        refine lv_aload_n hx hb dX7_asked_137 rfl (lv_at hl 3 rfl) ?_
                        refine va_get (D := D) (ci := 7) (v := .ref (r 16)) (C := RX7) (T := TX7) (N := 20) hx hb hg inC7 hown hK hP 1 rfl rfl 19 (by decide) (hg _ wt1_154) (fun _ h9 => h9) rfl dX7_asked_138 ?_
                        refine va_get (D := D) (ci := 8) (v := .ref (r 18)) (C := RX8) (T := TX8) (N := 5) hx hb hg inC8 hown hK hP 16 rfl rfl 1 (by decide) (hg _ wt1_57) (fun _ h9 => h9) rfl dX7_asked_141 ?_
                        refine kLG.callW (As := [.int y36, .int 2, .ref (r 17), .ref (r 18)]) (rest := []) ⟨hx, hb, hml, hown, hg⟩ (z_reckonN l r f95 a96 g97 tx tt hT hI hG y36 2 b52 (kb_w kc_2 (by decide) (by decide)) t ht ((DD (k 106).toInt.toNat).2.2.2.2.2.2 cc) (lwW k x y_) n2 n3 (by have kz : (2 : Int32).toInt.toNat = 2 := (by decide +kernel); rw [hc6n, kz]; exact hn2) (by have kz : (2 : Int32).toInt.toNat = 2 := (by decide +kernel); rw [hc6n, kz]; exact hn3) ⟨l23, by omega⟩ hq3 hwd (lwW_b hkk (bx) (by_))) (cwV 4 hg (kgV wt3_96 wt3_97 wt3_98 wt1_8 wt3_99) rfl rfl rfl (by decide +kernel) ⟨by decide, by decide⟩) hV hK hP hD hS hA (jt_0 + 95) 10 rfl hjt_0 rfl hl.1 rfl (Nat.le_of_ble_eq_true rfl) dX7_asked_144 ⟨Nat.le_refl _, Nat.le_refl _⟩ (fun v100 u101 H locs hw99 hP hD hS => ?_)
                        obtain ⟨f102, a103, g104⟩ := u101
                        have hP : va_P D vwCl (xX K r f102 a103 g104 tx) H := hP
                        have hD : va_D A (xX K r f102 a103 g104 tx) := hD
                        have hI : xI f102 a103 := hw99.2.1
                        have hG : gOK K g104.2 tt := hw99.2.2.1
                        have eE105 : xEk ([], [], []) f95 a96 g97 f102 a103 g104 := hw99.2.2.2.1
                        have hE : xEk ([], [], []) f a g f102 a103 g104 := xEk_tr hE eE105
                        have hrk106 := hw99.2.2.2.2.1
                        have hwd : ∀ j, j < 10 → (g104.1 17 j).toInt = lwW k x y_ j := hw99.2.2.2.2.2.2
                        refine lv_lconst (v := 1) hx hb dX7_asked_147 (by decide) ?_
                        refine W.lcmp hx hb dX7_asked_148 ?_
                        refine lv_topi (fun t107 et107 => ?_)
                        refine lv_if_ne (tgt := 202) hx hb dX7_asked_149 (by decide) (fun c108 => ?_) (fun c108 => ?_)
                        · have h109 := klc_ne (et107 ▸ c108)
                          have h3n : ¬ (DD (k 106).toInt.toNat).2.2.2.2.2.2 cc (lwW k x y_) = some 1 := (fun q => h109 (Int64.toInt_inj.mp (by rw [hrk106, q]; decide +kernel)))
                          obtain ⟨t110, et110⟩ : ∃ z : Int32, z = y36 + Int32.ofInt (-1) := ⟨_, rfl⟩
                          have qt110 : t110.toInt = y36.toInt - 1 := by rw [et110]; exact km_dec b52 (by decide)
                          have b111 : kb (-1) t110 10 := kb_inc (k := (-1)) qt110 b52
                          refine lv_iinc (v := t110) (lv' := [(6, .int t110), (5, .int 1), (4, .ref (t.1 0)), (0, .ref (r 1)), (1, .int kd), (2, .int x), (3, .int y_)]) hx hb dX7_asked_202 hl (k := 1) rfl et110.symm (by decide) rfl (fun ls hl => ?_)
                          refine lv_goto (tgt := 91) hx hb dX7_asked_205 (by decide) ?_
                          exact ihlp41  f102 a103 g104 _ _ _ t110 1 (km_dn hmlp41 qt110) hI hG hE (kb_w b111 (by decide) (by decide)) (kb_w kc_1 (by decide) (by decide)) (fun j h1 h2 => by by_cases e : j = cc; (rw [e]; exact (by unfold clT; rw [if_neg (fun q => h3n q.2)])); exact hno j (by have w1 := qt110; omega) h2) (Or.inr hwd) (by have w2 := qt110; omega) hP hD hS (lv_sub hl [0, 1, 2, 3, 4, 5, 6] rfl)
                        · have h112 := klc_eq (et107 ▸ c108)
                          have h31 : (DD (k 106).toInt.toNat).2.2.2.2.2.2 cc (lwW k x y_) = some 1 := (by have w1 := congrArg Int64.toInt h112; have w2 : (1 : Int64).toInt = 1 := (by decide +kernel); rw [w2, hrk106] at w1; exact enc_i w1 (by decide))
                          refine lv_aload hx hb dX7_asked_152 (lv_at hl 2 rfl) ?_
                          refine lv_iload hx hb dX7_asked_154 (lv_at hl 1 rfl) ?_
                          refine lv_iconst (v := 0) hx hb dX7_asked_156 (by decide) ?_
                          refine lv_aload_n hx hb dX7_asked_157 rfl (lv_at hl 3 rfl) ?_
                          refine va_get (D := D) (ci := 7) (v := .ref (r 16)) (C := RX7) (T := TX7) (N := 20) hx hb hg inC7 hown hK hP 1 rfl rfl 19 (by decide) (hg _ wt1_154) (fun _ h9 => h9) rfl dX7_asked_158 ?_
                          refine va_get (D := D) (ci := 8) (v := .ref (r 17)) (C := RX8) (T := TX8) (N := 5) hx hb hg inC8 hown hK hP 16 rfl rfl 0 (by decide) (hg _ wt1_54) (fun _ h9 => h9) rfl dX7_asked_161 ?_
                          refine lv_aload_n hx hb dX7_asked_164 rfl (lv_at hl 3 rfl) ?_
                          refine va_get (D := D) (ci := 7) (v := .ref (r 16)) (C := RX7) (T := TX7) (N := 20) hx hb hg inC7 hown hK hP 1 rfl rfl 19 (by decide) (hg _ wt1_154) (fun _ h9 => h9) rfl dX7_asked_165 ?_
                          refine va_get (D := D) (ci := 8) (v := .ref (r 18)) (C := RX8) (T := TX8) (N := 5) hx hb hg inC8 hown hK hP 16 rfl rfl 1 (by decide) (hg _ wt1_57) (fun _ h9 => h9) rfl dX7_asked_168 ?_
                          refine kLG.callW (As := [.int y36, .int 0, .ref (r 17), .ref (r 18)]) (rest := []) ⟨hx, hb, hml, hown, hg⟩ (z_reckonN l r f102 a103 g104 tx tt hT hI hG y36 0 b52 (kb_w kc_0 (by decide) (by decide)) t ht ((DD (k 106).toInt.toNat).2.2.2.2.1 cc) (lwW k x y_) n0 n1 (by have kz : (0 : Int32).toInt.toNat = 0 := (by decide +kernel); rw [hc6n, kz]; exact hn0) (by have kz : (0 : Int32).toInt.toNat = 0 := (by decide +kernel); rw [hc6n, kz]; exact hn1) ⟨l01, by omega⟩ hq1 hwd (lwW_b hkk (bx) (by_))) (cwV 4 hg (kgV wt3_96 wt3_97 wt3_98 wt1_8 wt3_99) rfl rfl rfl (by decide +kernel) ⟨by decide, by decide⟩) hV hK hP hD hS hA (jt_0 + 95) 10 rfl hjt_0 rfl hl.1 rfl (Nat.le_of_ble_eq_true rfl) dX7_asked_171 ⟨Nat.le_refl _, Nat.le_refl _⟩ (fun v114 u115 H locs hw113 hP hD hS => ?_)
                          obtain ⟨f116, a117, g118⟩ := u115
                          have hP : va_P D vwCl (xX K r f116 a117 g118 tx) H := hP
                          have hD : va_D A (xX K r f116 a117 g118 tx) := hD
                          have hI : xI f116 a117 := hw113.2.1
                          have hG : gOK K g118.2 tt := hw113.2.2.1
                          have eE119 : xEk ([], [], []) f102 a103 g104 f116 a117 g118 := hw113.2.2.2.1
                          have hE : xEk ([], [], []) f a g f116 a117 g118 := xEk_tr hE eE119
                          have hrk120 := hw113.2.2.2.2.1
                          have hwd : ∀ j, j < 10 → (g118.1 17 j).toInt = lwW k x y_ j := hw113.2.2.2.2.2.2
                          refine lv_lstore (lv' := [(7, .long v114), (5, .int 1), (6, .int y36), (4, .ref (t.1 0)), (0, .ref (r 1)), (1, .int kd), (2, .int x), (3, .int y_)]) hx hb dX7_asked_174 hl (by decide) rfl (fun ls hl => ?_)
                          refine lv_lload hx hb dX7_asked_176 (lv_at hl 0 rfl) ?_
                          refine lv_ldc2 (v := (-1000000000000)) hx hb hown (hg _ wt3_106) dX7_asked_178 ?_
                          refine W.lcmp hx hb dX7_asked_181 ?_
                          refine lv_topi (fun t121 et121 => ?_)
                          refine lv_if_eq (tgt := 202) hx hb dX7_asked_182 (by decide) (fun c122 => ?_) (fun c122 => ?_)
                          · have h123 := klc_eq (et121 ▸ c122)
                            have hb0 : (DD (k 106).toInt.toNat).2.2.2.2.1 cc (lwW k x y_) = none := enc_nn (by rw [← hrk120, h123]; decide +kernel) hw113.2.2.2.2.2.1
                            obtain ⟨t124, et124⟩ : ∃ z : Int32, z = y36 + Int32.ofInt (-1) := ⟨_, rfl⟩
                            have qt124 : t124.toInt = y36.toInt - 1 := by rw [et124]; exact km_dec b52 (by decide)
                            have b125 : kb (-1) t124 10 := kb_inc (k := (-1)) qt124 b52
                            refine lv_iinc (v := t124) (lv' := [(6, .int t124), (7, .long v114), (5, .int 1), (4, .ref (t.1 0)), (0, .ref (r 1)), (1, .int kd), (2, .int x), (3, .int y_)]) hx hb dX7_asked_202 hl (k := 2) rfl et124.symm (by decide) rfl (fun ls hl => ?_)
                            refine lv_goto (tgt := 91) hx hb dX7_asked_205 (by decide) ?_
                            exact ihlp41  f116 a117 g118 _ _ _ t124 1 (km_dn hmlp41 qt124) hI hG hE (kb_w b125 (by decide) (by decide)) (kb_w kc_1 (by decide) (by decide)) (fun j h1 h2 => by by_cases e : j = cc; (rw [e]; exact (by unfold clT; rw [if_pos ⟨hhd, h31⟩, hb0]; rfl)); exact hno j (by have w1 := qt124; omega) h2) (Or.inr hwd) (by have w2 := qt124; omega) hP hD hS (lv_sub hl [0, 2, 3, 4, 5, 6, 7] rfl)
                          · have h126 := klc_ne (et121 ▸ c122)
                            have htold : (DD (k 106).toInt.toNat).2.2.2.2.1 cc (lwW k x y_) = some v114.toInt := enc_i hrk120.symm (fun q => h126 (Int64.toInt_inj.mp (q.trans (by decide +kernel))))
                            refine lv_lconst (v := 0) hx hb dX7_asked_185 (by decide) ?_
                            refine va_getsN hx hb hz3 hS hown (va_Nw.use rfl hN3) (fun _ h => h) dX7_asked_186 ?_
                            refine lv_iload_n hx hb dX7_asked_189 rfl (lv_at hl 5 rfl) ?_
                            refine va_ti (v := .int (mt0 kd.toNatClampNeg)) hx hb hT3 hS (kb_in bkd (by decide) (by decide)) rfl dX7_asked_190 ?_
                            refine lv_topi (fun t127 et127 => ?_)
                            refine lv_i2l hx hb dX7_asked_191 rfl ?_
                            refine lv_topl (fun t128 et128 => ?_)
                            refine lv_lload hx hb dX7_asked_192 (lv_at hl 0 rfl) ?_
                            refine va_mmin_long hx hb (hml.trans hl.1.symm) hown (hg _ wt3_107) (hg _ wt3_108) (hg _ wt1_9) (hg _ wt3_109) (by decide) (Nat.le_of_ble_eq_true rfl) (by decide) (by decide) dX7_asked_194 ?_
                            refine lv_topl (fun t129 et129 => ?_)
                            refine va_mmax_long hx hb (hml.trans hl.1.symm) hown (hg _ wt3_110) (hg _ wt3_111) (hg _ wt1_9) (hg _ wt3_112) (by decide) (Nat.le_of_ble_eq_true rfl) (by decide) (by decide) dX7_asked_197 ?_
                            refine lv_topl (fun t130 et130 => ?_)
                            refine lv_l2i hx hb dX7_asked_200 rfl ?_
                            refine lv_topi (fun t131 et131 => ?_)
                            have hclp : t131.toInt = max 0 (min (kHi kd.toInt.toNat) v114.toInt) := cl_p bkd et127 et128 et129 et130 et131
                            exact kI_ret (v := t131) hx hb hr hlocks rfl hK hS dX7_asked_201 (f116, a117, g118) hP hD ⟨(kb_any t131), hI, hG, hE, (by unfold askF; rw [if_neg hne]; unfold lwV; rw [lastOf_n (c := cc + 1) (by omega) (fun j h1 h2 => hno j (by omega) h2), lastOf_s]; unfold clT; rw [if_pos ⟨hhd, h31⟩, htold]; exact hclp)⟩
                    · have hhn : ¬ (DD (k 106).toInt.toNat).2.2.1 cc = (kHd kd.toInt.toNat) := fun q => c54 (Int32.toInt_inj.mp (by have w1 := hd_v bkd (congrArg Int32.toInt q); omega))
                      refine lv_goto (tgt := 202) hx hb dX7_asked_108 (by decide) ?_
                      obtain ⟨t132, et132⟩ : ∃ z : Int32, z = y36 + Int32.ofInt (-1) := ⟨_, rfl⟩
                      have qt132 : t132.toInt = y36.toInt - 1 := by rw [et132]; exact km_dec b52 (by decide)
                      have b133 : kb (-1) t132 10 := kb_inc (k := (-1)) qt132 b52
                      refine lv_iinc (v := t132) (lv' := [(6, .int t132), (5, .int y37), (4, .ref (t.1 0)), (0, .ref (r 1)), (1, .int kd), (2, .int x), (3, .int y_)]) hx hb dX7_asked_202 hl (k := 0) rfl et132.symm (by decide) rfl (fun ls hl => ?_)
                      refine lv_goto (tgt := 91) hx hb dX7_asked_205 (by decide) ?_
                      exact ihlp41  F38 B39 G40 _ _ _ t132 y37 (km_dn hmlp41 qt132) hI hG hE (kb_w b133 (by decide) (by decide)) b44 (fun j h1 h2 => by by_cases e : j = cc; (rw [e]; exact (by unfold clT; rw [if_neg (fun q => hhn q.1)])); exact hno j (by have w1 := qt132; omega) h2) (hwr) (by have w2 := qt132; omega) hP hD hS (lv_sub hl [0, 1, 2, 3, 4, 5, 6] rfl)
              exact lp41 (13)  f a g _ _ _ t34 0 (by have h1 := (b35); unfold kb at h1; omega) hI hG hE b35 (kb_w kc_0 (by decide) (by decide)) (fun j h1 h2 => by have w1 := hcn; have w2 := qt34; omega) (Or.inl rfl) (by have w1 := hcn; have w2 := qt34; omega) hP hD hS (lv_sub hl [0, 1, 2, 3, 4, 5, 6] rfl)
        · exact kb_dj c16 kc_1 kc_0 (by decide)
