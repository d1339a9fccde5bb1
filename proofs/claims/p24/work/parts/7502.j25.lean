set_option maxHeartbeats 4000000 in
set_option maxRecDepth 100000 in
theorem z_waysWith  (l : Launch) {D : va_G} {K : Nat → ClassId} (r : Nat → Nat) (f : Nat → Int32) (a : Nat → Nat → Int32) (g : xG) (tx tt : va_W) (hT : ∀ c ∈ tt, c ∈ tx) (hI : xI f a) (hG : gOK K g.2 tt) (x : Int32) (pt : Int32) (bx : kb 0 x 1023) (bpt : kb 0 pt 9) (k : Nat → Int32) (hVw : sV 32 2 f a k) (hkk : kK k) (s_ q_ : Nat) (hp0 : x = nI s_) (hp1 : s_ < 1024) (hp2 : pt = nI q_) (hp3 : q_ < 10) : kIG l yX6_waysWith (Cond.code yX6_waysWith cX6_waysWith 5 (some .int) :: kG) (rmD 1 0 0) D K [.ref (r 87), .int x, .int pt] (xX K r f a g tx) (fun v (_ : Unit) => kb (-2147483648) v 2147483647 ∧ v = (if fB k s_ q_ = true then a 88 (s_ ||| 2 ^ q_) else 0)) (fun _ => xX K r f a g tx) 0 0 := by
  refine kIE.of (cc := cX6_waysWith) (maxL := 5) (ret := (some .int)) (by decide) rfl (Nat.le_of_ble_eq_true rfl) ?_
  intro p e s m below meth c A hx hb hr hml hown hts hlocks hnm hK hP hD hS hA hV ls hl
  have hg : ∀ w ∈ kG, w.before _ s = true := fun w h => hts w (List.mem_cons_of_mem _ h)
  have hown : s.vm.findClass RX6 = some m.cls := hown
  have hl : lv_has ls 5 [(0, .ref (r 87)), (1, .int x), (2, .int pt)] := hl
  have w0 := hp0
  have hx0 : x.toInt = (s_ : Int) := by rw [hp0]; exact kn_to (by omega)
  have hq0 : pt.toInt = (q_ : Int) := by rw [hp2]; exact kn_to (by omega)
  refine lv_iload_n hx hb dX6_waysWith_0 rfl (lv_at hl 1 rfl) ?_
  refine lv_iload_n hx hb dX6_waysWith_1 rfl (lv_at hl 2 rfl) ?_
  refine lv_ishr hx hb dX6_waysWith_2 ?_
  refine lv_topi (fun t1 et1 => ?_)
  refine lv_iconst (v := 1) hx hb dX6_waysWith_3 (by decide) ?_
  refine lv_iand hx hb dX6_waysWith_4 ?_
  refine lv_topi (fun t2 et2 => ?_)
  have b3 : kb 0 t2 1 := kb_eq et2 (kb_and 1 (by decide) (by decide))
  refine lv_if_ne (tgt := 28) hx hb dX6_waysWith_5 (by decide) (fun c4 => ?_) (fun c4 => ?_)
  · have b5 : kb 1 t2 1 := kr_nel c4 b3 kc_0 (by decide)
    refine lv_iconst (v := 0) hx hb dX6_waysWith_28 (by decide) ?_
    refine lv_istore_n (lv' := [(3, .int 0), (0, .ref (r 87)), (1, .int x), (2, .int pt)]) hx hb dX6_waysWith_29 rfl hl (by decide) rfl (fun ls hl => ?_)
    refine lv_iload_n hx hb dX6_waysWith_30 rfl (lv_at hl 2 rfl) ?_
    refine lv_iconst (v := 1) hx hb dX6_waysWith_31 (by decide) ?_
    refine lv_iload_n hx hb dX6_waysWith_32 rfl (lv_at hl 3 rfl) ?_
    refine lv_ishl hx hb dX6_waysWith_33 ?_
    refine lv_topi (fun t6 et6 => ?_)
    have b7 : kb 1 t6 512 := kb_eq et6 (kb_shl (l := 0) (h := 9) bpt (by decide))
    refine lv_ior hx hb dX6_waysWith_34 ?_
    refine lv_topi (fun t8 et8 => ?_)
    have b9 : kb 0 t8 1023 := kb_eq et8 (kb_or 10 bx b7 (by decide) (by decide) (by decide) (by decide) (by decide))
    refine lv_istore (lv' := [(4, .int t8), (3, .int 0), (0, .ref (r 87)), (1, .int x), (2, .int pt)]) hx hb dX6_waysWith_35 hl (by decide) rfl (fun ls hl => ?_)
    refine lv_iload_n hx hb dX6_waysWith_37 rfl (lv_at hl 1 rfl) ?_
    refine lv_if_eq (tgt := 64) hx hb dX6_waysWith_38 (by decide) (fun c10 => ?_) (fun c10 => ?_)
    · refine lv_iconst (v := 0) hx hb dX6_waysWith_64 (by decide) ?_
      exact kI_ret (v := 0) hx hb hr hlocks rfl hK hS dX6_waysWith_65 () hP hD ⟨(kb_w kc_0 (by decide) (by decide)), (by rw [if_neg (fun h9 => c4 ((show t2 = (nI s_ >>> (nI q_ &&& 31)) &&& 1 from by rw [et2, et1, hp0, hp2]).trans ((fB_iff (k := k) (s := s_) (q := q_) hp1 hp3).mp h9).1))])⟩
    · exact kb_nsame c10 kc_0 kc_0
  · have b11 : kb 0 t2 0 := kb_eq c4 kc_0
    refine lv_aload_n hx hb dX6_waysWith_8 rfl (lv_at hl 0 rfl) ?_
    refine va_get (D := D) (ci := 6) (v := .ref (r 1)) (C := RX6) (T := TX6) (N := 3) hx hb hg inC6 hown hK hP 87 rfl rfl 0 (by decide) (hg _ wt2_153) (fun _ h9 => h9) rfl dX6_waysWith_9 ?_
    refine va_get (D := D) (ci := 7) (v := .ref (r 3)) (C := RX7) (T := TX7) (N := 20) hx hb hg inC7 hown hK hP 1 rfl rfl 2 (by decide) (hg _ wt1_91) (fun _ h9 => h9) rfl dX6_waysWith_12 ?_
    refine lv_iload_n hx hb dX6_waysWith_15 rfl (lv_at hl 2 rfl) ?_
    refine va_iald hx hb hK hP 3 0 rfl rfl (kb_in bpt (by decide) (by decide)) dX6_waysWith_16 ?_
    refine lv_topi (fun t12 et12 => ?_)
    have kvt12 : t12 = k (33 + pt.toNatClampNeg) := et12.trans ((sv_needs hVw (kb_clt bpt (by decide) (by decide))))
    have b13 : kb 0 t12 1023 := kb_eq et12 (et12 ▸ kb_eq kvt12 (kK_s hkk 33 10 _ _ (by decide) (by decide) (kb_clt bpt (by decide) (by decide))))
    refine lv_iload_n hx hb dX6_waysWith_17 rfl (lv_at hl 1 rfl) ?_
    refine lv_iconst (v := (-1)) hx hb dX6_waysWith_18 (by decide) ?_
    refine lv_ixor hx hb dX6_waysWith_19 ?_
    refine lv_topi (fun t14 et14 => ?_)
    refine lv_iand hx hb dX6_waysWith_20 ?_
    refine lv_topi (fun t15 et15 => ?_)
    refine lv_if_ne (tgt := 28) hx hb dX6_waysWith_21 (by decide) (fun c16 => ?_) (fun c16 => ?_)
    · refine lv_iconst (v := 0) hx hb dX6_waysWith_28 (by decide) ?_
      refine lv_istore_n (lv' := [(3, .int 0), (0, .ref (r 87)), (1, .int x), (2, .int pt)]) hx hb dX6_waysWith_29 rfl hl (by decide) rfl (fun ls hl => ?_)
      refine lv_iload_n hx hb dX6_waysWith_30 rfl (lv_at hl 2 rfl) ?_
      refine lv_iconst (v := 1) hx hb dX6_waysWith_31 (by decide) ?_
      refine lv_iload_n hx hb dX6_waysWith_32 rfl (lv_at hl 3 rfl) ?_
      refine lv_ishl hx hb dX6_waysWith_33 ?_
      refine lv_topi (fun t17 et17 => ?_)
      have b18 : kb 1 t17 512 := kb_eq et17 (kb_shl (l := 0) (h := 9) bpt (by decide))
      refine lv_ior hx hb dX6_waysWith_34 ?_
      refine lv_topi (fun t19 et19 => ?_)
      have b20 : kb 0 t19 1023 := kb_eq et19 (kb_or 10 bx b18 (by decide) (by decide) (by decide) (by decide) (by decide))
      refine lv_istore (lv' := [(4, .int t19), (3, .int 0), (0, .ref (r 87)), (1, .int x), (2, .int pt)]) hx hb dX6_waysWith_35 hl (by decide) rfl (fun ls hl => ?_)
      refine lv_iload_n hx hb dX6_waysWith_37 rfl (lv_at hl 1 rfl) ?_
      refine lv_if_eq (tgt := 64) hx hb dX6_waysWith_38 (by decide) (fun c21 => ?_) (fun c21 => ?_)
      · refine lv_iconst (v := 0) hx hb dX6_waysWith_64 (by decide) ?_
        exact kI_ret (v := 0) hx hb hr hlocks rfl hK hS dX6_waysWith_65 () hP hD ⟨(kb_w kc_0 (by decide) (by decide)), (by rw [if_neg (fun h9 => c16 ((show t15 = k (33 + q_) &&& (nI s_ ^^^ (-1)) from by rw [et15, et14, kvt12, hp0, cl_nat hq0]).trans ((fB_iff (k := k) (s := s_) (q := q_) hp1 hp3).mp h9).2))])⟩
      · exact kb_nsame c21 kc_0 kc_0
    · have b22 : kb 0 t15 0 := kb_eq c16 kc_0
      refine lv_iconst (v := 1) hx hb dX6_waysWith_24 (by decide) ?_
      refine lv_goto (tgt := 29) hx hb dX6_waysWith_25 (by decide) ?_
      refine lv_istore_n (lv' := [(3, .int 1), (0, .ref (r 87)), (1, .int x), (2, .int pt)]) hx hb dX6_waysWith_29 rfl hl (by decide) rfl (fun ls hl => ?_)
      refine lv_iload_n hx hb dX6_waysWith_30 rfl (lv_at hl 2 rfl) ?_
      refine lv_iconst (v := 1) hx hb dX6_waysWith_31 (by decide) ?_
      refine lv_iload_n hx hb dX6_waysWith_32 rfl (lv_at hl 3 rfl) ?_
      refine lv_ishl hx hb dX6_waysWith_33 ?_
      refine lv_topi (fun t23 et23 => ?_)
      have b24 : kb 1 t23 512 := kb_eq et23 (kb_shl (l := 0) (h := 9) bpt (by decide))
      refine lv_ior hx hb dX6_waysWith_34 ?_
      refine lv_topi (fun t25 et25 => ?_)
      have b26 : kb 0 t25 1023 := kb_eq et25 (kb_or 10 bx b24 (by decide) (by decide) (by decide) (by decide) (by decide))
      refine lv_istore (lv' := [(4, .int t25), (3, .int 1), (0, .ref (r 87)), (1, .int x), (2, .int pt)]) hx hb dX6_waysWith_35 hl (by decide) rfl (fun ls hl => ?_)
      refine lv_iload_n hx hb dX6_waysWith_37 rfl (lv_at hl 1 rfl) ?_
      refine lv_if_eq (tgt := 64) hx hb dX6_waysWith_38 (by decide) (fun c27 => ?_) (fun c27 => ?_)
      · exact kb_dj c27 kc_1 kc_0 (by decide)
      · refine lv_iload hx hb dX6_waysWith_41 (lv_at hl 0 rfl) ?_
        refine lv_if_lt (tgt := 64) hx hb dX6_waysWith_43 (by decide) (fun c28 => ?_) (fun c28 => ?_)
        · have h29 := (kc_lt c28)
          exact kb_no (kr_lt1 h29 b26 kc_0 (H := (-1)) (by decide)) (by decide)
        · have h30 := (kc_nlt c28)
          refine lv_iload hx hb dX6_waysWith_46 (lv_at hl 0 rfl) ?_
          refine lv_sipush (v := 1024) hx hb dX6_waysWith_48 (by decide) ?_
          refine lv_icmp_ge (tgt := 64) hx hb dX6_waysWith_51 (by decide) (fun c31 => ?_) (fun c31 => ?_)
          · have h32 := (kc_le c31)
            exact kb_no (kr_le1 h32 kc_1024 b26) (by decide)
          · have h33 := (kc_nle c31)
            refine lv_aload_n hx hb dX6_waysWith_54 rfl (lv_at hl 2 rfl) ?_
            refine va_get (D := D) (ci := 6) (v := .ref (r 88)) (C := RX6) (T := TX6) (N := 3) hx hb hg inC6 hown hK hP 87 rfl rfl 1 (by decide) (hg _ wt2_154) (fun _ h9 => h9) rfl dX6_waysWith_55 ?_
            refine lv_iload hx hb dX6_waysWith_58 (lv_at hl 0 rfl) ?_
            refine va_iald hx hb hK hP 88 0 rfl rfl (kb_in b26 (by decide) (by decide)) dX6_waysWith_60 ?_
            refine lv_topi (fun t34 et34 => ?_)
            refine lv_goto (tgt := 65) hx hb dX6_waysWith_61 (by decide) ?_
            exact kI_ret (v := t34) hx hb hr hlocks rfl hK hS dX6_waysWith_65 () hP hD ⟨(kb_any t34), (by rw [if_pos ((fB_iff (k := k) (s := s_) (q := q_) hp1 hp3).mpr ⟨(show t2 = (nI s_ >>> (nI q_ &&& 31)) &&& 1 from by rw [et2, et1, hp0, hp2]).symm.trans c4, (show t15 = k (33 + q_) &&& (nI s_ ^^^ (-1)) from by rw [et15, et14, kvt12, hp0, cl_nat hq0]).symm.trans c16⟩), ← (cl_or (t := t25) (by rw [et25, et23]) hx0 hq0 hp1 hp3).1]; exact et34)⟩
set_option maxHeartbeats 4000000 in
set_option maxRecDepth 100000 in
theorem z_reckonWays  (l : Launch) {D : va_G} {K : Nat → ClassId} (r : Nat → Nat) (f : Nat → Int32) (a : Nat → Nat → Int32) (g : xG) (tx tt : va_W) (hT : ∀ c ∈ tt, c ∈ tx) (hI : xI f a) (hG : gOK K g.2 tt)   (k : Nat → Int32) (hVw : sV 32 2 f a k) (hkk : kK k)  (hp0 : f 2786 = 0 ∨ wOR k (kPn k) (bM (upB k) (kPn k)) (a 88)) : kVG l yX6_reckonWays (Cond.code yX6_reckonWays cX6_reckonWays 6 none :: kG) (rmD 2 0 0) D K [.ref (r 87)] (xX K r f a g tx) (fun (u : xS) => xI u.1 u.2.1 ∧ gOK K u.2.2.2 tt ∧ xEk ([2786], [88], []) f a g u.1 u.2.1 u.2.2 ∧ wOR k (kPn k) (bM (upB k) (kPn k)) (u.2.1 88)) (fun u => xX K r u.1 u.2.1 u.2.2 tx) 0 0 := by
  refine kVG.of (cc := cX6_reckonWays) (maxL := 6) (ret := none) (by decide) rfl (Nat.le_of_ble_eq_true rfl) ?_
  intro p e s m below meth c A hx hb hr hml hown hts hlocks hnm hK hP hD hS hA hV ls hl
  have hE : xEk ([2786], [88], []) f a g f a g := xEk_rf
  have hg : ∀ w ∈ kG, w.before _ s = true := fun w h => hts w (List.mem_cons_of_mem _ h)
  have hown : s.vm.findClass RX6 = some m.cls := hown
  have hl : lv_has ls 6 [(0, .ref (r 87))] := hl
  have hN10 := (kPn_b hkk).1
  have hp2 := p2 hN10
  obtain ⟨N, hNN⟩ : ∃ N : Nat, N = kPn k := ⟨_, rfl⟩
  rw [← hNN] at hN10 hp2
  obtain ⟨u_, hu_⟩ : ∃ u_ : Nat, u_ = bM (upB k) (kPn k) := ⟨_, rfl⟩
  have hu1 : u_ < 2 ^ N := by rw [hu_, hNN]; exact bM_lt _ _
  have hkN : (k 102).toInt = (N : Int) := by rw [hNN]; exact (kPn_b hkk).2
  refine lv_aload_n hx hb dX6_reckonWays_0 rfl (lv_at hl 0 rfl) ?_
  refine va_get (D := D) (ci := 6) (v := .int (f 2786)) (C := RX6) (T := TX6) (N := 3) hx hb hg inC6 hown hK hP 87 rfl rfl 2 (by decide) (hg _ wt2_155) (fun _ h9 => h9) rfl dX6_reckonWays_1 ?_
  refine lv_topi (fun t1 et1 => ?_)
  refine lv_if_eq (tgt := 8) hx hb dX6_reckonWays_4 (by decide) (fun c2 => ?_) (fun c2 => ?_)
  · have b3 : kb 0 t1 0 := kb_eq c2 kc_0
    refine lv_aload_n hx hb dX6_reckonWays_8 rfl (lv_at hl 0 rfl) ?_
    refine va_get (D := D) (ci := 6) (v := .ref (r 1)) (C := RX6) (T := TX6) (N := 3) hx hb hg inC6 hown hK hP 87 rfl rfl 0 (by decide) (hg _ wt2_153) (fun _ h9 => h9) rfl dX6_reckonWays_9 ?_
    refine kIG.callW (As := []) (rest := []) ⟨hx, hb, hml, hown, hg⟩ (z_upMaskN l r f a g tx tt hT hI hG   k hVw hkk ) (cwV 0 hg (kgV wt4_213 wt3_44 wt3_45 wt1_2 wt3_46) rfl rfl rfl (by decide +kernel) ⟨by decide, by decide⟩) hV hK hP hD hS hA (1) 7 rfl rfl rfl hl.1 rfl (Nat.le_of_ble_eq_true rfl) dX6_reckonWays_12 ⟨Nat.le_refl _, Nat.le_refl _⟩ (fun v5 u6 H locs hw4 hP hD hS => ?_)
    have hP : va_P D vwCl (xX K r f a g tx) H := hP
    have hD : va_D A (xX K r f a g tx) := hD
    refine lv_istore_n (lv' := [(1, .int v5), (0, .ref (r 87))]) hx hb dX6_reckonWays_15 rfl hl (by decide) rfl (fun ls hl => ?_)
    have hup : v5 = nI u_ := by rw [hw4.2, hu_]; rfl
    refine lv_iconst (v := 1) hx hb dX6_reckonWays_16 (by decide) ?_
    refine lv_aload_n hx hb dX6_reckonWays_17 rfl (lv_at hl 1 rfl) ?_
    refine va_get (D := D) (ci := 6) (v := .ref (r 1)) (C := RX6) (T := TX6) (N := 3) hx hb hg inC6 hown hK hP 87 rfl rfl 0 (by decide) (hg _ wt2_153) (fun _ h9 => h9) rfl dX6_reckonWays_18 ?_
    refine va_get (D := D) (ci := 7) (v := .int (f 32)) (C := RX7) (T := TX7) (N := 20) hx hb hg inC7 hown hK hP 1 rfl rfl 0 (by decide) (hg _ wt1_81) (fun _ h9 => h9) rfl dX6_reckonWays_21 ?_
    refine lv_topi (fun t7 et7 => ?_)
    have b8 : kb 0 t7 10 := kb_eq et7 (fI_at hI.1 32 (by decide) (by decide))
    have kvt7 : t7 = k 102 := et7.trans ((sv_parts hVw))
    have kvit7 : t7.toInt = (k 102).toInt := congrArg Int32.toInt kvt7
    have b9 : kb 0 t7 10 := kb_eq kvt7 (kK_r hkk 102 _ _ (by decide) (by decide))
    refine lv_ishl hx hb dX6_reckonWays_24 ?_
    refine lv_topi (fun t10 et10 => ?_)
    have b11 : kb 1 t10 1024 := kb_eq et10 (kb_shl (l := 0) (h := 10) b9 (by decide))
    refine lv_iconst (v := 1) hx hb dX6_reckonWays_25 (by decide) ?_
    refine lv_isub hx hb dX6_reckonWays_26 ?_
    refine lv_topi (fun t12 et12 => ?_)
    have b13 : kb 0 t12 1023 := kb_eq et12 (kb_sub b11 kc_1 (by decide) (by decide))
    have qt12 : t12.toInt = t10.toInt - 1 := by rw [et12]; exact kt_subc b11 kc_1 (by decide) (by decide)
    refine lv_istore_n (lv' := [(2, .int t12), (1, .int v5), (0, .ref (r 87))]) hx hb dX6_reckonWays_27 rfl hl (by decide) rfl (fun ls hl => ?_)
    have hsh : t10 = nI (2 ^ N) := by rw [et10, nI_q (show t7.toInt = (N : Int) from by rw [kvit7]; exact hkN)]; exact kn_shl ⟨N, by omega⟩
    have hal : t12.toInt = ((2 ^ N - 1 : Nat) : Int) := by have w1 := qt12; rw [hsh, kn_to (by omega)] at w1; omega
    refine lv_iload_n hx hb dX6_reckonWays_28 rfl (lv_at hl 0 rfl) ?_
    refine lv_sipush (v := 1023) hx hb dX6_reckonWays_29 (by decide) ?_
    refine va_mmin hx hb (hml.trans hl.1.symm) hown (hg _ wt4_214) (hg _ wt3_52) (hg _ wt1_9) (hg _ wt3_53) (by decide) (Nat.le_of_ble_eq_true rfl) (by decide) (by decide) dX6_reckonWays_32 ?_
    refine lv_topi (fun t14 et14 => ?_)
    have b15 : kb 0 t14 1023 := kb_eq et14 (kb_mn b13 kc_1023 (by decide) (by decide) (by decide) (by decide))
    refine lv_istore_n (lv' := [(3, .int t14), (2, .int t12), (1, .int v5), (0, .ref (r 87))]) hx hb dX6_reckonWays_35 rfl hl (by decide) rfl (fun ls hl => ?_)
    have lp18 : ∀ (n19 : Nat) (mz : Nat) (B17 : Nat → Nat → Int32) (H : Heap) (locs : List Loc) (ls : Array Slot) (y16 : Int32), ((mz : Int) < (n19 : Int)) → (xI f B17) → (gOK K g.2 tt) → (xEk ([2786], [88], []) f a g f B17 g) → (kb (-1) y16 1023) → (y16.toInt = (mz : Int) - 1) → (cDn k N u_ (B17 88) mz) → (mz ≤ 2 ^ N) → va_P D vwCl (xX K r f B17 g tx) H → va_D A (xX K r f B17 g tx) → va_S A s.heap H locs → lv_has ls 6 [(3, .int y16), (2, .int t12), (1, .int v5), (0, .ref (r 87))] → W p l e (rmD 2 0 0) s m ([.ref (r 87)] : List Value).toArray below meth c H locs 0 0 (kQv D (tysK K) (fun (u : xS) => xI u.1 u.2.1 ∧ gOK K u.2.2.2 tt ∧ xEk ([2786], [88], []) f a g u.1 u.2.1 u.2.2 ∧ wOR k (kPn k) (bM (upB k) (kPn k)) (u.2.1 88)) (fun u => xX K r u.1 u.2.1 u.2.2 tx) A below ([.ref (r 87)] : List Value).toArray s 0 0) (F0 m 36 ls []) := by
      intro n19
      induction n19 with
      | zero =>
        intro mz B17  H locs ls y16 hmlp18 hI hG hE b20 hvlp18_0 hvlp18_1 hvlp18_2 hP hD hS hl
        exact (by have w1 := hmlp18; omega : False).elim
      | succ n19 ihlp18 =>
        intro mz B17  H locs ls y16 hmlp18 hI hG hE b20 hvlp18_0 hvlp18_1 hvlp18_2 hP hD hS hl
        refine lv_iload_n hx hb dX6_reckonWays_36 rfl (lv_at hl 0 rfl) ?_
        refine lv_if_lt (tgt := 116) hx hb dX6_reckonWays_37 (by decide) (fun c21 => ?_) (fun c21 => ?_)
        · have h22 := (kc_lt c21)
          have b23 : kb (-1) y16 (-1) := kr_lt1 h22 b20 kc_0 (by decide)
          refine lv_aload_n hx hb dX6_reckonWays_116 rfl (lv_at hl 3 rfl) ?_
          refine lv_iconst (v := 1) hx hb dX6_reckonWays_117 (by decide) ?_
          refine va_put (D := D) (ci := 6) (v := .int 1) (ty := .boolean) (C := RX6) (T := TX6) (N := 3) hx hb hg inC6 tyX6 tyX6_ok nmX6 hown hK hP hD hS 87 rfl rfl 2 (by decide) (hg _ wt2_155) (fun _ h9 => h9) rfl (by decide +kernel) rfl rfl (Nat.le_of_ble_eq_true rfl) dX6_reckonWays_118 (fun H locs hP hD hS => ?_)
          have hP : va_P D vwCl (xX K r (upd f 2786 1) B17 g tx) H := hP
          have hD : va_D A (xX K r (upd f 2786 1) B17 g tx) := hD
          refine k_gen (P := fun z => va_P D vwCl (xX K r z B17 g tx) H ∧ va_D A (xX K r z B17 g tx) ∧ (xI z B17) ∧ (gOK K g.2 tt) ∧ (xEk ([2786], [88], []) f a g z B17 g)) (upd f 2786 1) ⟨hP, hD, (xI_f hI (fI_st hI.1 2786 (kb_any _) (by decide) (by decide))), hG, (xEk_f hE rfl)⟩ (fun f_24 ef_24 hq => ?_)
          obtain ⟨hP, hD, hI, hG, hE⟩ := hq
          exact kV_ret hx hb hr hlocks hK hS dX6_reckonWays_121 (f_24, B17, g) hP hD ⟨hI, hG, hE, (by have w1 : mz = 0 := (by have w2 := hvlp18_0; have w3 := kc_lt c21; have w4 : (0 : Int32).toInt = 0 := (by decide +kernel); omega); have w9 := hvlp18_1; rw [w1] at w9; rw [← hu_, ← hNN]; exact cDn_w hN10 hu1 w9)⟩
        · have h25 := (kc_nlt c21)
          have b26 : kb 0 y16 1023 := kr_le2 h25 kc_0 b20
          have hm1 : 1 ≤ mz := by have w1 := (b26).1; have w2 := hvlp18_0; omega
          have hms : y16.toInt = ((mz - 1 : Nat) : Int) := by have w2 := hvlp18_0; omega
          have hbn : y16 = nI (mz - 1) := nI_q hms
          refine lv_iload_n hx hb dX6_reckonWays_40 rfl (lv_at hl 0 rfl) ?_
          refine lv_iload_n hx hb dX6_reckonWays_41 rfl (lv_at hl 2 rfl) ?_
          refine lv_iand hx hb dX6_reckonWays_42 ?_
          refine lv_topi (fun t27 et27 => ?_)
          refine lv_iload_n hx hb dX6_reckonWays_43 rfl (lv_at hl 2 rfl) ?_
          refine lv_icmp_eq (tgt := 50) hx hb dX6_reckonWays_44 (by decide) (fun c28 => ?_) (fun c28 => ?_)
          · have b29 : kb 0 t27 1023 := kb_eq c28 hw4.1
            have hsu : (mz - 1) &&& u_ = u_ := nI_inj (Nat.lt_of_le_of_lt Nat.and_le_left (by omega)) (by omega) (by rw [← nI_and (by omega) (by omega), ← hbn, ← hup, ← et27]; exact c28)
            refine lv_iload_n hx hb dX6_reckonWays_50 rfl (lv_at hl 0 rfl) ?_
            refine lv_iload_n hx hb dX6_reckonWays_51 rfl (lv_at hl 1 rfl) ?_
            refine lv_icmp_ne (tgt := 59) hx hb dX6_reckonWays_52 (by decide) (fun c30 => ?_) (fun c30 => ?_)
            · refine lv_iconst (v := 0) hx hb dX6_reckonWays_59 (by decide) ?_
              refine lv_istore (lv' := [(4, .int 0), (3, .int y16), (2, .int t12), (1, .int v5), (0, .ref (r 87))]) hx hb dX6_reckonWays_60 hl (by decide) rfl (fun ls hl => ?_)
              obtain ⟨c0, hc9⟩ : ∃ c0 : Int, c0 = (0 : Int32).toInt := ⟨_, rfl⟩
              have hc01 : 0 ≤ c0 ∧ c0 ≤ 1 := by rw [hc9]; decide +kernel
              have hca : ¬ mz - 1 = 2 ^ N - 1 := fun h9 => c30 (Int32.toInt_inj.mp (by rw [hms, hal, h9]))
              refine lv_iconst (v := 0) hx hb dX6_reckonWays_62 (by decide) ?_
              refine lv_istore (lv' := [(5, .int 0), (4, .int 0), (3, .int y16), (2, .int t12), (1, .int v5), (0, .ref (r 87))]) hx hb dX6_reckonWays_63 hl (by decide) rfl (fun ls hl => ?_)
              have lp33 : ∀ (n34 : Nat) (q : Nat) (H : Heap) (locs : List Loc) (ls : Array Slot) (y31 : Int32) (y32 : Int32), ((N : Int) < (q : Int) + (n34 : Int)) → (kb 0 y31 10) → (kb 0 y32 3628801) → (y31.toInt = (q : Int)) → (y32.toInt = c0 + pSr k (B17 88) (mz - 1) q) → (q ≤ N) → va_P D vwCl (xX K r f B17 g tx) H → va_D A (xX K r f B17 g tx) → va_S A s.heap H locs → lv_has ls 6 [(5, .int y31), (4, .int y32), (3, .int y16), (2, .int t12), (1, .int v5), (0, .ref (r 87))] → W p l e (rmD 2 0 0) s m ([.ref (r 87)] : List Value).toArray below meth c H locs 0 0 (kQv D (tysK K) (fun (u : xS) => xI u.1 u.2.1 ∧ gOK K u.2.2.2 tt ∧ xEk ([2786], [88], []) f a g u.1 u.2.1 u.2.2 ∧ wOR k (kPn k) (bM (upB k) (kPn k)) (u.2.1 88)) (fun u => xX K r u.1 u.2.1 u.2.2 tx) A below ([.ref (r 87)] : List Value).toArray s 0 0) (F0 m 65 ls []) := by
                intro n34
                induction n34 with
                | zero =>
                  intro q  H locs ls y31 y32 hmlp33 b35 b36 hvlp33_0 hvlp33_1 hvlp33_2 hP hD hS hl
                  exact (by have w1 := hmlp33; have w2 := hvlp33_2; omega : False).elim
                | succ n34 ihlp33 =>
                  intro q  H locs ls y31 y32 hmlp33 b35 b36 hvlp33_0 hvlp33_1 hvlp33_2 hP hD hS hl
                  refine lv_iload hx hb dX6_reckonWays_65 (lv_at hl 0 rfl) ?_
                  refine lv_aload_n hx hb dX6_reckonWays_67 rfl (lv_at hl 5 rfl) ?_
                  refine va_get (D := D) (ci := 6) (v := .ref (r 1)) (C := RX6) (T := TX6) (N := 3) hx hb hg inC6 hown hK hP 87 rfl rfl 0 (by decide) (hg _ wt2_153) (fun _ h9 => h9) rfl dX6_reckonWays_68 ?_
                  refine va_get (D := D) (ci := 7) (v := .int (f 32)) (C := RX7) (T := TX7) (N := 20) hx hb hg inC7 hown hK hP 1 rfl rfl 0 (by decide) (hg _ wt1_81) (fun _ h9 => h9) rfl dX6_reckonWays_71 ?_
                  refine k_top (z := t7) et7.symm ?_
                  refine lv_icmp_ge (tgt := 102) hx hb dX6_reckonWays_74 (by decide) (fun c37 => ?_) (fun c37 => ?_)
                  · have h38 := (kc_le c37)
                    have hqe : q = N := by have w1 := hvlp33_0; have w2 := kc_le c37; have w3 := kvit7; have w4 := hvlp33_2; omega
                    have hsm : y32.toInt = c0 + pSr k (B17 88) (mz - 1) N := by have w1 := hvlp33_1; rw [hqe] at w1; exact w1
                    refine lv_aload_n hx hb dX6_reckonWays_102 rfl (lv_at hl 5 rfl) ?_
                    refine va_get (D := D) (ci := 6) (v := .ref (r 88)) (C := RX6) (T := TX6) (N := 3) hx hb hg inC6 hown hK hP 87 rfl rfl 1 (by decide) (hg _ wt2_154) (fun _ h9 => h9) rfl dX6_reckonWays_103 ?_
                    refine lv_iload_n hx hb dX6_reckonWays_106 rfl (lv_at hl 2 rfl) ?_
                    refine lv_iload hx hb dX6_reckonWays_107 (lv_at hl 1 rfl) ?_
                    refine va_iast hx hb hK hP hD hS 88 0 rfl rfl (kb_in b26 (by decide) (by decide)) dX6_reckonWays_109 (fun H locs hP hD hS => ?_)
                    have hP : va_P D vwCl (xX K r f (va_up B17 88 (upd (B17 88) y16.toNatClampNeg y32)) g tx) H := hP
                    have hD : va_D A (xX K r f (va_up B17 88 (upd (B17 88) y16.toNatClampNeg y32)) g tx) := hD
                    refine k_gen (P := fun z => va_P D vwCl (xX K r f z g tx) H ∧ va_D A (xX K r f z g tx) ∧ (xI f z) ∧ (gOK K g.2 tt) ∧ (xEk ([2786], [88], []) f a g f z g)) (va_up B17 88 (upd (B17 88) y16.toNatClampNeg y32)) ⟨hP, hD, (xI_a hI (by decide)), hG, (xEk_a hE rfl)⟩ (fun a_39 ea_39 hq => ?_)
                    obtain ⟨hP, hD, hI, hG, hE⟩ := hq
                    obtain ⟨t40, et40⟩ : ∃ z : Int32, z = y16 + Int32.ofInt (-1) := ⟨_, rfl⟩
                    have qt40 : t40.toInt = y16.toInt - 1 := by rw [et40]; exact km_dec b26 (by decide)
                    have b41 : kb (-1) t40 1022 := kb_inc (k := (-1)) qt40 b26
                    refine lv_iinc (v := t40) (lv' := [(3, .int t40), (5, .int y31), (4, .int y32), (2, .int t12), (1, .int v5), (0, .ref (r 87))]) hx hb dX6_reckonWays_110 hl (k := 2) rfl et40.symm (by decide) rfl (fun ls hl => ?_)
                    refine lv_goto (tgt := 36) hx hb dX6_reckonWays_113 (by decide) ?_
                    exact ihlp18 (mz - 1) a_39 _ _ _ t40 (by omega) hI hG hE (kb_w b41 (by decide) (by decide)) (by have w1 := qt40; have w2 := hvlp18_0; omega) (by rw [(show a_39 88 = upd (B17 88) y16.toNatClampNeg y32 from by rw [← ea_39]; rfl), show y16.toNatClampNeg = mz - 1 by have w1 := hms; unfold Int32.toNatClampNeg; omega]; exact cDn_s hN10 (by rw [show mz - 1 + 1 = mz by omega]; exact hvlp18_1) (by omega) (fun _ => by rw [hsm, hc9]; have z0 : (0 : Int32).toInt = 0 := (by decide +kernel); omega) (fun h9 => absurd h9 hca)) (by have w1 := hvlp18_2; omega) hP hD hS (lv_sub hl [0, 3, 4, 5] rfl)
                  · have h42 := (kc_nle c37)
                    have b43 : kb 0 y31 9 := kr_lt1 h42 b35 b9 (by decide)
                    have b44 : kb 1 t7 10 := kr_lt2 h42 b35 b9 (by decide)
                    refine lv_iload hx hb dX6_reckonWays_77 (lv_at hl 0 rfl) ?_
                    refine lv_bipush (v := 10) hx hb dX6_reckonWays_79 (by decide) ?_
                    refine lv_icmp_ge (tgt := 102) hx hb dX6_reckonWays_81 (by decide) (fun c45 => ?_) (fun c45 => ?_)
                    · have h46 := (kc_le c45)
                      exact kb_no (kr_le1 h46 kc_10 b43) (by decide)
                    · have h47 := (kc_nle c45)
                      have hqN : q < N := by have w1 := hvlp33_0; have w2 := kc_nle c37; have w3 := kvit7; omega
                      refine lv_iload hx hb dX6_reckonWays_84 (lv_at hl 1 rfl) ?_
                      refine lv_aload_n hx hb dX6_reckonWays_86 rfl (lv_at hl 5 rfl) ?_
                      refine lv_iload_n hx hb dX6_reckonWays_87 rfl (lv_at hl 2 rfl) ?_
                      refine lv_iload hx hb dX6_reckonWays_88 (lv_at hl 0 rfl) ?_
                      refine kIG.callW (As := [.int y16, .int y31]) (rest := [.int y32]) ⟨hx, hb, hml, hown, hg⟩ (z_waysWith l r f B17 g tx tt hT hI hG y16 y31 b26 b43 k (show sV 32 2 f B17 k from sV_cg hVw (hE.1 32 rfl) (hE.1 38 rfl) (hE.1 44 rfl) (hE.1 49 rfl) (hE.1 50 rfl) (fun j hj => hE.2.1 _ (al_c (b := 2) (J := List.range 13) (by decide +kernel) (List.mem_range.mpr hj)))) hkk (mz - 1) q hbn (by omega) (nI_q hvlp33_0) (by omega)) (cwV 2 hg (kgV wt4_215 wt4_217 wp2_13 wt1_12 wt4_218) rfl rfl rfl (by decide +kernel) ⟨by decide, by decide⟩) hV hK hP hD hS hA (87) 6 rfl rfl rfl hl.1 rfl (Nat.le_of_ble_eq_true rfl) dX6_reckonWays_90 ⟨Nat.le_refl _, Nat.le_refl _⟩ (fun v49 u50 H locs hw48 hP hD hS => ?_)
                      have hP : va_P D vwCl (xX K r f B17 g tx) H := hP
                      have hD : va_D A (xX K r f B17 g tx) := hD
                      by_cases hf9 : fB k (mz - 1) q = true
                      · have hv9 : v49 = B17 88 ((mz - 1) ||| 2 ^ q) := (show v49 = (if fB k (mz - 1) q = true then B17 88 ((mz - 1) ||| 2 ^ q) else 0) from hw48.2).trans (if_pos hf9)
                        have b51 : kb 0 v49 3628800 := kb_eq hv9 (cO_b hvlp18_1 (by have w1 := or_gt (fB_t (by omega) (by omega) hf9); omega) (or_lt (by omega) hqN) (or_sup hsu))
                        refine lv_iadd hx hb dX6_reckonWays_93 ?_
                        refine lv_topi (fun t52 et52 => ?_)
                        have b53 : kb 0 t52 7257601 := kb_eq et52 (kb_add b36 b51 (by decide) (by decide))
                        have qt52 : t52.toInt = y32.toInt + v49.toInt := by rw [et52]; exact kt_add b36 b51 (by decide) (by decide)
                        refine lv_istore (lv' := [(4, .int t52), (5, .int y31), (3, .int y16), (2, .int t12), (1, .int v5), (0, .ref (r 87))]) hx hb dX6_reckonWays_94 hl (by decide) rfl (fun ls hl => ?_)
                        have hq96 : t52.toInt = c0 + pSr k (B17 88) (mz - 1) (q + 1) := by rw [pS_y hf9]; have w1 := qt52; have w2 := hvlp33_1; have w3 := congrArg Int32.toInt hv9; omega
                        have b54 : kb 0 t52 3628801 := (by have w1 := cS_10 hN10 (show cDn k N u_ (B17 88) (mz - 1 + 1) by rw [show mz - 1 + 1 = mz by omega]; exact hvlp18_1) (Nat.le_refl _) (by omega) hsu (q + 1) hqN; have w2 := hc01; exact ⟨by omega, by omega⟩)
                        obtain ⟨t55, et55⟩ : ∃ z : Int32, z = y31 + Int32.ofInt 1 := ⟨_, rfl⟩
                        have qt55 : t55.toInt = y31.toInt + 1 := by rw [et55]; exact km_inc b43 (by decide) (by decide)
                        have b56 : kb 1 t55 10 := kb_inc (k := 1) qt55 b43
                        refine lv_iinc (v := t55) (lv' := [(5, .int t55), (4, .int t52), (3, .int y16), (2, .int t12), (1, .int v5), (0, .ref (r 87))]) hx hb dX6_reckonWays_96 hl (k := 1) rfl et55.symm (by decide) rfl (fun ls hl => ?_)
                        refine lv_goto (tgt := 65) hx hb dX6_reckonWays_99 (by decide) ?_
                        exact ihlp33 (q + 1) _ _ _ t55 t52 (by omega) (kb_w b56 (by decide) (by decide)) b54 (by have w1 := hvlp33_0; have w2 := qt55; omega) (by rw [pS_y hf9]; have w1 := qt52; have w2 := hvlp33_1; have w3 := congrArg Int32.toInt hv9; omega) (hqN) hP hD hS (lv_sub hl [0, 1, 2, 3, 4, 5] rfl)
                      · refine k_top (z := 0) ((show v49 = (if fB k (mz - 1) q = true then B17 88 ((mz - 1) ||| 2 ^ q) else 0) from hw48.2).trans (if_neg hf9)) ?_
                        refine lv_iadd hx hb dX6_reckonWays_93 ?_
                        refine lv_topi (fun t57 et57 => ?_)
                        have b58 : kb 0 t57 3628801 := kb_eq et57 (kb_add b36 kc_0 (by decide) (by decide))
                        have qt57 : t57.toInt = y32.toInt + 0 := by rw [et57]; exact kt_addc b36 kc_0 (by decide) (by decide)
                        refine lv_istore (lv' := [(4, .int t57), (5, .int y31), (3, .int y16), (2, .int t12), (1, .int v5), (0, .ref (r 87))]) hx hb dX6_reckonWays_94 hl (by decide) rfl (fun ls hl => ?_)
                        obtain ⟨t59, et59⟩ : ∃ z : Int32, z = y31 + Int32.ofInt 1 := ⟨_, rfl⟩
                        have qt59 : t59.toInt = y31.toInt + 1 := by rw [et59]; exact km_inc b43 (by decide) (by decide)
                        have b60 : kb 1 t59 10 := kb_inc (k := 1) qt59 b43
                        refine lv_iinc (v := t59) (lv' := [(5, .int t59), (4, .int t57), (3, .int y16), (2, .int t12), (1, .int v5), (0, .ref (r 87))]) hx hb dX6_reckonWays_96 hl (k := 1) rfl et59.symm (by decide) rfl (fun ls hl => ?_)
                        refine lv_goto (tgt := 65) hx hb dX6_reckonWays_99 (by decide) ?_
                        exact ihlp33 (q + 1) _ _ _ t59 t57 (by omega) (kb_w b60 (by decide) (by decide)) b58 (by have w1 := hvlp33_0; have w2 := qt59; omega) (by rw [pS_n hf9]; have w1 := qt57; have w2 := hvlp33_1; have z0 : (0 : Int32).toInt = 0 := (by decide +kernel); omega) (hqN) hP hD hS (lv_sub hl [0, 1, 2, 3, 4, 5] rfl)
              exact lp33 (N + 1) 0 _ _ _ 0 0 (by omega) (kb_w kc_0 (by decide) (by decide)) (kb_w kc_0 (by decide) (by decide)) (by decide +kernel) (by show _ = c0 + 0; rw [hc9]; decide +kernel) (Nat.zero_le _) hP hD hS (lv_sub hl [0, 1, 2, 3, 4, 5] rfl)
            · refine lv_iconst (v := 1) hx hb dX6_reckonWays_55 (by decide) ?_
              refine lv_goto (tgt := 60) hx hb dX6_reckonWays_56 (by decide) ?_
              refine lv_istore (lv' := [(4, .int 1), (3, .int y16), (2, .int t12), (1, .int v5), (0, .ref (r 87))]) hx hb dX6_reckonWays_60 hl (by decide) rfl (fun ls hl => ?_)
              obtain ⟨c0, hc9⟩ : ∃ c0 : Int, c0 = (1 : Int32).toInt := ⟨_, rfl⟩
              have hc01 : 0 ≤ c0 ∧ c0 ≤ 1 := by rw [hc9]; decide +kernel
              have hca : mz - 1 = 2 ^ N - 1 := by have w1 := congrArg Int32.toInt c30; omega
              refine lv_iconst (v := 0) hx hb dX6_reckonWays_62 (by decide) ?_
              refine lv_istore (lv' := [(5, .int 0), (4, .int 1), (3, .int y16), (2, .int t12), (1, .int v5), (0, .ref (r 87))]) hx hb dX6_reckonWays_63 hl (by decide) rfl (fun ls hl => ?_)
              have lp63 : ∀ (n64 : Nat) (q : Nat) (H : Heap) (locs : List Loc) (ls : Array Slot) (y61 : Int32) (y62 : Int32), ((N : Int) < (q : Int) + (n64 : Int)) → (kb 0 y61 10) → (kb 0 y62 3628801) → (y61.toInt = (q : Int)) → (y62.toInt = c0 + pSr k (B17 88) (mz - 1) q) → (q ≤ N) → va_P D vwCl (xX K r f B17 g tx) H → va_D A (xX K r f B17 g tx) → va_S A s.heap H locs → lv_has ls 6 [(5, .int y61), (4, .int y62), (3, .int y16), (2, .int t12), (1, .int v5), (0, .ref (r 87))] → W p l e (rmD 2 0 0) s m ([.ref (r 87)] : List Value).toArray below meth c H locs 0 0 (kQv D (tysK K) (fun (u : xS) => xI u.1 u.2.1 ∧ gOK K u.2.2.2 tt ∧ xEk ([2786], [88], []) f a g u.1 u.2.1 u.2.2 ∧ wOR k (kPn k) (bM (upB k) (kPn k)) (u.2.1 88)) (fun u => xX K r u.1 u.2.1 u.2.2 tx) A below ([.ref (r 87)] : List Value).toArray s 0 0) (F0 m 65 ls []) := by
                intro n64
                induction n64 with
                | zero =>
                  intro q  H locs ls y61 y62 hmlp63 b65 b66 hvlp63_0 hvlp63_1 hvlp63_2 hP hD hS hl
                  exact (by have w1 := hmlp63; have w2 := hvlp63_2; omega : False).elim
                | succ n64 ihlp63 =>
                  intro q  H locs ls y61 y62 hmlp63 b65 b66 hvlp63_0 hvlp63_1 hvlp63_2 hP hD hS hl
                  refine lv_iload hx hb dX6_reckonWays_65 (lv_at hl 0 rfl) ?_
                  refine lv_aload_n hx hb dX6_reckonWays_67 rfl (lv_at hl 5 rfl) ?_
                  refine va_get (D := D) (ci := 6) (v := .ref (r 1)) (C := RX6) (T := TX6) (N := 3) hx hb hg inC6 hown hK hP 87 rfl rfl 0 (by decide) (hg _ wt2_153) (fun _ h9 => h9) rfl dX6_reckonWays_68 ?_
                  refine va_get (D := D) (ci := 7) (v := .int (f 32)) (C := RX7) (T := TX7) (N := 20) hx hb hg inC7 hown hK hP 1 rfl rfl 0 (by decide) (hg _ wt1_81) (fun _ h9 => h9) rfl dX6_reckonWays_71 ?_
                  refine k_top (z := t7) et7.symm ?_
                  refine lv_icmp_ge (tgt := 102) hx hb dX6_reckonWays_74 (by decide) (fun c67 => ?_) (fun c67 => ?_)
                  · have h68 := (kc_le c67)
                    have hqe : q = N := by have w1 := hvlp63_0; have w2 := kc_le c67; have w3 := kvit7; have w4 := hvlp63_2; omega
                    have hsm : y62.toInt = c0 + pSr k (B17 88) (mz - 1) N := by have w1 := hvlp63_1; rw [hqe] at w1; exact w1
                    refine lv_aload_n hx hb dX6_reckonWays_102 rfl (lv_at hl 5 rfl) ?_
                    refine va_get (D := D) (ci := 6) (v := .ref (r 88)) (C := RX6) (T := TX6) (N := 3) hx hb hg inC6 hown hK hP 87 rfl rfl 1 (by decide) (hg _ wt2_154) (fun _ h9 => h9) rfl dX6_reckonWays_103 ?_
                    refine lv_iload_n hx hb dX6_reckonWays_106 rfl (lv_at hl 2 rfl) ?_
                    refine lv_iload hx hb dX6_reckonWays_107 (lv_at hl 1 rfl) ?_
                    refine va_iast hx hb hK hP hD hS 88 0 rfl rfl (kb_in b26 (by decide) (by decide)) dX6_reckonWays_109 (fun H locs hP hD hS => ?_)
                    have hP : va_P D vwCl (xX K r f (va_up B17 88 (upd (B17 88) y16.toNatClampNeg y62)) g tx) H := hP
                    have hD : va_D A (xX K r f (va_up B17 88 (upd (B17 88) y16.toNatClampNeg y62)) g tx) := hD
                    refine k_gen (P := fun z => va_P D vwCl (xX K r f z g tx) H ∧ va_D A (xX K r f z g tx) ∧ (xI f z) ∧ (gOK K g.2 tt) ∧ (xEk ([2786], [88], []) f a g f z g)) (va_up B17 88 (upd (B17 88) y16.toNatClampNeg y62)) ⟨hP, hD, (xI_a hI (by decide)), hG, (xEk_a hE rfl)⟩ (fun a_69 ea_69 hq => ?_)
                    obtain ⟨hP, hD, hI, hG, hE⟩ := hq
                    obtain ⟨t70, et70⟩ : ∃ z : Int32, z = y16 + Int32.ofInt (-1) := ⟨_, rfl⟩
                    have qt70 : t70.toInt = y16.toInt - 1 := by rw [et70]; exact km_dec b26 (by decide)
                    have b71 : kb (-1) t70 1022 := kb_inc (k := (-1)) qt70 b26
                    refine lv_iinc (v := t70) (lv' := [(3, .int t70), (5, .int y61), (4, .int y62), (2, .int t12), (1, .int v5), (0, .ref (r 87))]) hx hb dX6_reckonWays_110 hl (k := 2) rfl et70.symm (by decide) rfl (fun ls hl => ?_)
                    refine lv_goto (tgt := 36) hx hb dX6_reckonWays_113 (by decide) ?_
                    exact ihlp18 (mz - 1) a_69 _ _ _ t70 (by omega) hI hG hE (kb_w b71 (by decide) (by decide)) (by have w1 := qt70; have w2 := hvlp18_0; omega) (by rw [(show a_69 88 = upd (B17 88) y16.toNatClampNeg y62 from by rw [← ea_69]; rfl), show y16.toNatClampNeg = mz - 1 by have w1 := hms; unfold Int32.toNatClampNeg; omega]; exact cDn_s hN10 (by rw [show mz - 1 + 1 = mz by omega]; exact hvlp18_1) (by omega) (fun h9 => absurd hca (by omega)) (fun _ => Int32.toInt_inj.mp (by rw [hsm, hca, pSr_all hN10 N (Nat.le_refl _), hc9]; decide +kernel))) (by have w1 := hvlp18_2; omega) hP hD hS (lv_sub hl [0, 3, 4, 5] rfl)
                  · have h72 := (kc_nle c67)
                    have b73 : kb 0 y61 9 := kr_lt1 h72 b65 b9 (by decide)
                    have b74 : kb 1 t7 10 := kr_lt2 h72 b65 b9 (by decide)
                    refine lv_iload hx hb dX6_reckonWays_77 (lv_at hl 0 rfl) ?_
                    refine lv_bipush (v := 10) hx hb dX6_reckonWays_79 (by decide) ?_
                    refine lv_icmp_ge (tgt := 102) hx hb dX6_reckonWays_81 (by decide) (fun c75 => ?_) (fun c75 => ?_)
                    · have h76 := (kc_le c75)
                      exact kb_no (kr_le1 h76 kc_10 b73) (by decide)
                    · have h77 := (kc_nle c75)
                      have hqN : q < N := by have w1 := hvlp63_0; have w2 := kc_nle c67; have w3 := kvit7; omega
                      refine lv_iload hx hb dX6_reckonWays_84 (lv_at hl 1 rfl) ?_
                      refine lv_aload_n hx hb dX6_reckonWays_86 rfl (lv_at hl 5 rfl) ?_
                      refine lv_iload_n hx hb dX6_reckonWays_87 rfl (lv_at hl 2 rfl) ?_
                      refine lv_iload hx hb dX6_reckonWays_88 (lv_at hl 0 rfl) ?_
                      refine kIG.callW (As := [.int y16, .int y61]) (rest := [.int y62]) ⟨hx, hb, hml, hown, hg⟩ (z_waysWith l r f B17 g tx tt hT hI hG y16 y61 b26 b73 k (show sV 32 2 f B17 k from sV_cg hVw (hE.1 32 rfl) (hE.1 38 rfl) (hE.1 44 rfl) (hE.1 49 rfl) (hE.1 50 rfl) (fun j hj => hE.2.1 _ (al_c (b := 2) (J := List.range 13) (by decide +kernel) (List.mem_range.mpr hj)))) hkk (mz - 1) q hbn (by omega) (nI_q hvlp63_0) (by omega)) (cwV 2 hg (kgV wt4_215 wt4_217 wp2_13 wt1_12 wt4_218) rfl rfl rfl (by decide +kernel) ⟨by decide, by decide⟩) hV hK hP hD hS hA (87) 6 rfl rfl rfl hl.1 rfl (Nat.le_of_ble_eq_true rfl) dX6_reckonWays_90 ⟨Nat.le_refl _, Nat.le_refl _⟩ (fun v79 u80 H locs hw78 hP hD hS => ?_)
                      have hP : va_P D vwCl (xX K r f B17 g tx) H := hP
                      have hD : va_D A (xX K r f B17 g tx) := hD
                      by_cases hf9 : fB k (mz - 1) q = true
                      · have hv9 : v79 = B17 88 ((mz - 1) ||| 2 ^ q) := (show v79 = (if fB k (mz - 1) q = true then B17 88 ((mz - 1) ||| 2 ^ q) else 0) from hw78.2).trans (if_pos hf9)
                        have b81 : kb 0 v79 3628800 := kb_eq hv9 (cO_b hvlp18_1 (by have w1 := or_gt (fB_t (by omega) (by omega) hf9); omega) (or_lt (by omega) hqN) (or_sup hsu))
                        refine lv_iadd hx hb dX6_reckonWays_93 ?_
                        refine lv_topi (fun t82 et82 => ?_)
                        have b83 : kb 0 t82 7257601 := kb_eq et82 (kb_add b66 b81 (by decide) (by decide))
                        have qt82 : t82.toInt = y62.toInt + v79.toInt := by rw [et82]; exact kt_add b66 b81 (by decide) (by decide)
                        refine lv_istore (lv' := [(4, .int t82), (5, .int y61), (3, .int y16), (2, .int t12), (1, .int v5), (0, .ref (r 87))]) hx hb dX6_reckonWays_94 hl (by decide) rfl (fun ls hl => ?_)
                        have hq96 : t82.toInt = c0 + pSr k (B17 88) (mz - 1) (q + 1) := by rw [pS_y hf9]; have w1 := qt82; have w2 := hvlp63_1; have w3 := congrArg Int32.toInt hv9; omega
                        have b84 : kb 0 t82 3628801 := (by have w1 := cS_10 hN10 (show cDn k N u_ (B17 88) (mz - 1 + 1) by rw [show mz - 1 + 1 = mz by omega]; exact hvlp18_1) (Nat.le_refl _) (by omega) hsu (q + 1) hqN; have w2 := hc01; exact ⟨by omega, by omega⟩)
                        obtain ⟨t85, et85⟩ : ∃ z : Int32, z = y61 + Int32.ofInt 1 := ⟨_, rfl⟩
                        have qt85 : t85.toInt = y61.toInt + 1 := by rw [et85]; exact km_inc b73 (by decide) (by decide)
                        have b86 : kb 1 t85 10 := kb_inc (k := 1) qt85 b73
                        refine lv_iinc (v := t85) (lv' := [(5, .int t85), (4, .int t82), (3, .int y16), (2, .int t12), (1, .int v5), (0, .ref (r 87))]) hx hb dX6_reckonWays_96 hl (k := 1) rfl et85.symm (by decide) rfl (fun ls hl => ?_)
                        refine lv_goto (tgt := 65) hx hb dX6_reckonWays_99 (by decide) ?_
                        exact ihlp63 (q + 1) _ _ _ t85 t82 (by omega) (kb_w b86 (by decide) (by decide)) b84 (by have w1 := hvlp63_0; have w2 := qt85; omega) (by rw [pS_y hf9]; have w1 := qt82; have w2 := hvlp63_1; have w3 := congrArg Int32.toInt hv9; omega) (hqN) hP hD hS (lv_sub hl [0, 1, 2, 3, 4, 5] rfl)
                      · refine k_top (z := 0) ((show v79 = (if fB k (mz - 1) q = true then B17 88 ((mz - 1) ||| 2 ^ q) else 0) from hw78.2).trans (if_neg hf9)) ?_
                        refine lv_iadd hx hb dX6_reckonWays_93 ?_
                        refine lv_topi (fun t87 et87 => ?_)
                        have b88 : kb 0 t87 3628801 := kb_eq et87 (kb_add b66 kc_0 (by decide) (by decide))
                        have qt87 : t87.toInt = y62.toInt + 0 := by rw [et87]; exact kt_addc b66 kc_0 (by decide) (by decide)
                        refine lv_istore (lv' := [(4, .int t87), (5, .int y61), (3, .int y16), (2, .int t12), (1, .int v5), (0, .ref (r 87))]) hx hb dX6_reckonWays_94 hl (by decide) rfl (fun ls hl => ?_)
                        obtain ⟨t89, et89⟩ : ∃ z : Int32, z = y61 + Int32.ofInt 1 := ⟨_, rfl⟩
                        have qt89 : t89.toInt = y61.toInt + 1 := by rw [et89]; exact km_inc b73 (by decide) (by decide)
                        have b90 : kb 1 t89 10 := kb_inc (k := 1) qt89 b73
                        refine lv_iinc (v := t89) (lv' := [(5, .int t89), (4, .int t87), (3, .int y16), (2, .int t12), (1, .int v5), (0, .ref (r 87))]) hx hb dX6_reckonWays_96 hl (k := 1) rfl et89.symm (by decide) rfl (fun ls hl => ?_)
                        refine lv_goto (tgt := 65) hx hb dX6_reckonWays_99 (by decide) ?_
                        exact ihlp63 (q + 1) _ _ _ t89 t87 (by omega) (kb_w b90 (by decide) (by decide)) b88 (by have w1 := hvlp63_0; have w2 := qt89; omega) (by rw [pS_n hf9]; have w1 := qt87; have w2 := hvlp63_1; have z0 : (0 : Int32).toInt = 0 := (by decide +kernel); omega) (hqN) hP hD hS (lv_sub hl [0, 1, 2, 3, 4, 5] rfl)
              exact lp63 (N + 1) 0 _ _ _ 0 1 (by omega) (kb_w kc_0 (by decide) (by decide)) (kb_w kc_1 (by decide) (by decide)) (by decide +kernel) (by show _ = c0 + 0; rw [hc9]; decide +kernel) (Nat.zero_le _) hP hD hS (lv_sub hl [0, 1, 2, 3, 4, 5] rfl)
          · have hns : ¬ (mz - 1) &&& u_ = u_ := fun h9 => c28 (by rw [et27, hbn, hup, nI_and (by omega) (by omega), h9])
            refine lv_goto (tgt := 110) hx hb dX6_reckonWays_47 (by decide) ?_
            obtain ⟨t91, et91⟩ : ∃ z : Int32, z = y16 + Int32.ofInt (-1) := ⟨_, rfl⟩
            have qt91 : t91.toInt = y16.toInt - 1 := by rw [et91]; exact km_dec b26 (by decide)
            have b92 : kb (-1) t91 1022 := kb_inc (k := (-1)) qt91 b26
            refine lv_iinc (v := t91) (lv' := [(3, .int t91), (2, .int t12), (1, .int v5), (0, .ref (r 87))]) hx hb dX6_reckonWays_110 hl (k := 0) rfl et91.symm (by decide) rfl (fun ls hl => ?_)
            refine lv_goto (tgt := 36) hx hb dX6_reckonWays_113 (by decide) ?_
            exact ihlp18 (mz - 1) B17 _ _ _ t91 (by omega) hI hG hE (kb_w b92 (by decide) (by decide)) (by have w1 := qt91; have w2 := hvlp18_0; omega) (cDn_n (by rw [show mz - 1 + 1 = mz by omega]; exact (hvlp18_1)) hns) (by have w1 := hvlp18_2; omega) hP hD hS (lv_sub hl [0, 1, 2, 3] rfl)
    exact lp18 (2 ^ N + 1) (2 ^ N) a _ _ _ t14 (by omega) hI hG hE (kb_w b15 (by decide) (by decide)) (by have w1 := (congrArg Int32.toInt et14).trans (mn_v _ _); have w2 := hal; have w3 : (1023 : Int32).toInt = 1023 := (by decide +kernel); omega) (cDn_z) (Nat.le_refl _) hP hD hS (lv_sub hl [0, 1, 2, 3] rfl)
  · exact kV_ret hx hb hr hlocks hK hS dX6_reckonWays_7 (f, a, g) hP hD ⟨hI, hG, hE, (hp0.elim (fun h9 => absurd (et1.symm.symm.trans h9) c2) id)⟩
