/-! what can be undone, as the class keeps it: rows go round -/
def eR (R : Nat → Int32) (s : Nat) (w : Int32) (k : Nat → Int32) (nb : Nat) : Prop := R (24 * s) = w ∧ R (24 * s + 1) = k 22 ∧ (∀ i, i < 10 → R (24 * s + (2 + i)) = k (0 + i)) ∧ (∀ i, i < 6 → R (24 * s + (12 + i)) = k (10 + i)) ∧ (∀ i, i < 6 → i < nb → R (24 * s + (18 + i)) = k (16 + i))
def xPs (kp nx : Int32) (R : Nat → Int32) (P : pS) (nb : Nat) : Prop := kp.toInt = (P.1 : Int) ∧ P.1 ≤ 16 ∧ 0 ≤ nx.toInt ∧ nx.toInt < 16 ∧ ∀ j, j < P.1 → eR R ((nx.toInt.toNat + 16 - P.1 + j) % 16) (P.2.1 j) (P.2.2 j) nb
section XP
variable {kp kp' nx nx' w v x : Int32} {R R' : Nat → Int32} {P : pS} {nb s : Nat} {k : Nat → Int32}
theorem eR_cg (h : eR R s w k nb) (e : ∀ q, 24 * s ≤ q → q < 24 * s + 24 → R' q = R q) : eR R' s w k nb := by
  obtain ⟨h1, h2, h3, h4, h5⟩ := h
  refine ⟨?_, ?_, fun i hi => ?_, fun i hi => ?_, fun i hi hn => ?_⟩
  · rw [e _ (by omega) (by omega)]; exact h1
  · rw [e _ (by omega) (by omega)]; exact h2
  · rw [e _ (by omega) (by omega)]; exact h3 i hi
  · rw [e _ (by omega) (by omega)]; exact h4 i hi
  · rw [e _ (by omega) (by omega)]; exact h5 i hi hn
theorem xP_keep (h : xPs kp nx R P nb) (hs : eR R' nx.toInt.toNat w k nb) (ho : ∀ q, (q < 24 * nx.toInt.toNat ∨ 24 * nx.toInt.toNat + 24 ≤ q) → R' q = R q) (hn : nx'.toInt = (nx.toInt + 1) % 16) (hk : kp'.toInt = min 16 (kp.toInt + 1)) : xPs kp' nx' R' (kpP P w k) nb := by
  obtain ⟨h1, h2, h3, h4, h5⟩ := h
  obtain ⟨n, en⟩ : ∃ n : Nat, nx.toInt = (n : Int) := ⟨nx.toInt.toNat, by omega⟩
  have en2 : nx.toInt.toNat = n := by omega
  have en3 : nx'.toInt.toNat = (n + 1) % 16 := by omega
  rw [en2] at hs ho h5
  unfold kpP
  by_cases f : P.1 = 16
  · rw [if_pos f]
    refine ⟨by show kp'.toInt = ((16 : Nat) : Int); omega, Nat.le_refl _, by omega, by omega, fun j hj => ?_⟩
    have hj : j < 16 := hj
    show eR R' ((nx'.toInt.toNat + 16 - 16 + j) % 16) (if j = 15 then w else P.2.1 (j + 1)) (if j = 15 then k else P.2.2 (j + 1)) nb
    rw [en3]
    by_cases c : j = 15
    · rw [if_pos c, if_pos c, c, show ((n + 1) % 16 + 16 - 16 + 15) % 16 = n by omega]; exact hs
    · rw [if_neg c, if_neg c]
      have q := h5 (j + 1) (by omega)
      rw [f, show (n + 16 - 16 + (j + 1)) % 16 = ((n + 1) % 16 + 16 - 16 + j) % 16 by omega] at q
      exact eR_cg q (fun z z1 z2 => ho z (by omega))
  · rw [if_neg f]
    refine ⟨by show kp'.toInt = ((P.1 + 1 : Nat) : Int); omega, by show P.1 + 1 ≤ 16; omega, by omega, by omega, fun j hj => ?_⟩
    have hj : j < P.1 + 1 := hj
    show eR R' ((nx'.toInt.toNat + 16 - (P.1 + 1) + j) % 16) (if j = P.1 then w else P.2.1 j) (if j = P.1 then k else P.2.2 j) nb
    rw [en3]
    by_cases c : j = P.1
    · rw [if_pos c, if_pos c, c, show ((n + 1) % 16 + 16 - (P.1 + 1) + P.1) % 16 = n by omega]; exact hs
    · rw [if_neg c, if_neg c]
      have q := h5 j (by omega)
      rw [show (n + 16 - P.1 + j) % 16 = ((n + 1) % 16 + 16 - (P.1 + 1) + j) % 16 by omega] at q
      exact eR_cg q (fun z z1 z2 => ho z (by omega))
theorem xP_un (h : xPs kp nx R P nb) (h0 : ¬ P.1 = 0) (hk : kp'.toInt = kp.toInt - 1) (hn : nx'.toInt = (nx.toInt + 15) % 16) : xPs kp' nx' R (unP P) nb ∧ eR R nx'.toInt.toNat (P.2.1 (P.1 - 1)) (P.2.2 (P.1 - 1)) nb := by
  obtain ⟨h1, h2, h3, h4, h5⟩ := h
  obtain ⟨n, en⟩ : ∃ n : Nat, nx.toInt = (n : Int) := ⟨nx.toInt.toNat, by omega⟩
  have en2 : nx.toInt.toNat = n := by omega
  have en3 : nx'.toInt.toNat = (n + 15) % 16 := by omega
  rw [en2] at h5
  refine ⟨⟨by show kp'.toInt = ((P.1 - 1 : Nat) : Int); omega, by show P.1 - 1 ≤ 16; omega, by omega, by omega, fun j hj => ?_⟩, ?_⟩
  · have hj : j < P.1 - 1 := hj
    have q := h5 j (by omega)
    show eR R ((nx'.toInt.toNat + 16 - (P.1 - 1) + j) % 16) (P.2.1 j) (P.2.2 j) nb
    rw [en3, show ((n + 15) % 16 + 16 - (P.1 - 1) + j) % 16 = (n + 16 - P.1 + j) % 16 by omega]
    exact q
  · have q := h5 (P.1 - 1) (by omega)
    rw [en3, show (n + 15) % 16 = (n + 16 - P.1 + (P.1 - 1)) % 16 by omega]
    exact q
theorem xP_cg {kp2 nx2 : Int32} {R2 : Nat → Int32} (h : xPs kp nx R P nb) (e1 : kp2 = kp) (e2 : nx2 = nx) (e3 : R2 = R) : xPs kp2 nx2 R2 P nb := by rw [e1, e2, e3]; exact h
theorem rem_v {l h : Int} {t : Int32} (b : kb l x h) (p : 0 ≤ l) (e : t = x - x / 16 * 16) : t.toInt = x.toInt % 16 := by
  obtain ⟨a, ea, ha, la⟩ := kn_nat b p
  have q := pk_rem (a := a) (d := 16) la (by decide) (by decide)
  have q : nI a - nI a / 16 * 16 = nI (a % 16) := q
  rw [e, ea, q, kn_to (by omega), kn_to la]
  omega
/-- what keep writes -/
theorem kp_R {L T Q : Nat → Int32} {dd hh : Int32} {n i0 i1 i2 i3 i4 c0 c1 c2 c6 c7 c10 : Nat} (e0 : i0 = 24 * n) (e1 : i1 = 24 * n + 1) (e2 : i2 = 24 * n + 2) (e3 : i3 = 24 * n + 12) (e4 : i4 = 24 * n + 18) (f0 : c0 = 0) (f1 : c1 = 0) (f2 : c2 = 0) (f6 : c6 = 6) (f7 : c7 = 6) (f10 : c10 = 10) (eh : hh = k 22) (hL : ∀ i, i < 10 → L i = k (0 + i)) (hT : ∀ i, i < 6 → T i = k (10 + i)) (hQ : ∀ i, i < 6 → i < nb → Q i = k (16 + i)) (e : R' = va_cpy Q (va_cpy T (va_cpy L (upd (upd R i0 dd) i1 hh) c0 i2 c10) c1 i3 c6) c2 i4 c7) : eR R' n dd k nb ∧ ∀ q, (q < 24 * n ∨ 24 * n + 24 ≤ q) → R' q = R q := by
  rw [e0, e1, e2, e3, e4, f0, f1, f2, f6, f7, f10] at e
  rw [e]
  refine ⟨⟨?_, ?_, fun i hi => ?_, fun i hi => ?_, fun i hi hn => ?_⟩, fun q hq => ?_⟩
  · rw [pk_cpy_out (by omega), pk_cpy_out (by omega), pk_cpy_out (by omega), pk_un (by omega), pk_us]
  · rw [pk_cpy_out (by omega), pk_cpy_out (by omega), pk_cpy_out (by omega), pk_us]; exact eh
  · rw [pk_cpy_out (by omega), pk_cpy_out (by omega), pk_cpy_in (by omega) (by omega), show 0 + (24 * n + (2 + i) - (24 * n + 2)) = i by omega]; exact hL i hi
  · rw [pk_cpy_out (by omega), pk_cpy_in (by omega) (by omega), show 0 + (24 * n + (12 + i) - (24 * n + 12)) = i by omega]; exact hT i hi
  · rw [pk_cpy_in (by omega) (by omega), show 0 + (24 * n + (18 + i) - (24 * n + 18)) = i by omega]; exact hQ i hi hn
  · rw [pk_cpy_out (by omega), pk_cpy_out (by omega), pk_cpy_out (by omega), pk_un (by omega), pk_un (by omega)]
theorem cp_0 {S D E : Nat → Int32} {sp dp n c d m : Nat} (e : E = va_cpy S D c d m) (hc : c = sp) (hd : d = 0) (hm : m = n) : ∀ i, i < n → E i = S (sp + i) := by
  intro i hi
  rw [e, pk_cpy_in (by omega) (by omega), hc, hd]
  rfl
end XP
/-- what a deed leaves on the class's side -/
def xDd (o q : Nat) (v : Int32) (f : Nat → Int32) (a : Nat → Nat → Int32) (R : dR) (nb : Nat) : Prop := v.toInt = R.1 ∧ sV o q f a R.2.1 ∧ xPs (f 704) (f 705) (a 23) R.2.2 nb
theorem xDd_e {o q : Nat} {v : Int32} {f : Nat → Int32} {a : Nat → Nat → Int32} {R : dR} {x : Int} {k : Nat → Int32} {P : pS} {nb : Nat} (e : R = (x, k, P)) (h1 : v.toInt = x) (h2 : sV o q f a k) (h3 : xPs (f 704) (f 705) (a 23) P nb) : xDd o q v f a R nb := by
  rw [e]
  exact ⟨h1, h2, h3⟩
set_option maxHeartbeats 4000000 in
set_option maxRecDepth 100000 in
theorem z_keep  (l : Launch) {D : va_G} {K : Nat → ClassId} (r : Nat → Nat) (f : Nat → Int32) (a : Nat → Nat → Int32) (g : xG) (tx tt : va_W) (hT : ∀ c ∈ tt, c ∈ tx) (hI : xI f a) (hG : gOK K g.2 tt) (dd : Int32) (bdd : kb 0 dd 3) (k : Nat → Int32) (hVw : sV 32 2 f a k) (hkk : kK k) (P : pS) (hp0 : xPs (f 704) (f 705) (a 23) P (kBn k)) : kVG l yX2_keep (Cond.code yX2_keep cX2_keep 4 none :: kG) (rmD 2 0 0) D K [.ref (r 22), .int dd, .ref (r 1)] (xX K r f a g tx) (fun (u : xS) => xI u.1 u.2.1 ∧ gOK K u.2.2.2 tt ∧ xEk ([704, 705], [23], []) f a g u.1 u.2.1 u.2.2 ∧ xPs (u.1 704) (u.1 705) (u.2.1 23) (kpP P dd k) (kBn k)) (fun u => xX K r u.1 u.2.1 u.2.2 tx) 0 0 := by
  refine kVG.of (cc := cX2_keep) (maxL := 4) (ret := none) (by decide) rfl (Nat.le_of_ble_eq_true rfl) ?_
  intro p e s m below meth c A hx hb hr hml hown hts hlocks hnm hK hP hD hS hA hV ls hl
  have hE : xEk ([704, 705], [23], []) f a g f a g := xEk_rf
  have hg : ∀ w ∈ kG, w.before _ s = true := fun w h => hts w (List.mem_cons_of_mem _ h)
  have hown : s.vm.findClass RX2 = some m.cls := hown
  have hl : lv_has ls 4 [(0, .ref (r 22)), (1, .int dd), (2, .ref (r 1))] := hl
  obtain ⟨cnx, ecnx⟩ : ∃ z : Int32, z = f 705 := ⟨_, rfl⟩
  have b1 : kb 0 cnx 15 := ⟨by rw [ecnx]; exact hp0.2.2.1, by rw [ecnx]; have w1 := hp0.2.2.2.1; omega⟩
  have bnx9 := b1
  obtain ⟨ckp, eckp⟩ : ∃ z : Int32, z = f 704 := ⟨_, rfl⟩
  have b2 : kb 0 ckp 16 := ⟨by rw [eckp, hp0.1]; exact Int.natCast_nonneg _, by rw [eckp, hp0.1]; have w1 := hp0.2.1; omega⟩
  refine lv_aload_n hx hb dX2_keep_0 rfl (lv_at hl 0 rfl) ?_
  refine va_get (D := D) (ci := 2) (v := .int (f 705)) (C := RX2) (T := TX2) (N := 3) hx hb hg inC2 hown hK hP 22 rfl rfl 1 (by decide) (hg _ wt1_207) (fun _ h9 => h9) rfl dX2_keep_1 ?_
  refine k_top (z := cnx) ecnx.symm ?_
  refine lv_if_lt (tgt := 16) hx hb dX2_keep_4 (by decide) (fun c3 => ?_) (fun c3 => ?_)
  · have h4 := (kc_lt c3)
    exact kb_no (kr_lt1 h4 b1 kc_0 (H := (-1)) (by decide)) (by decide)
  · have h5 := (kc_nlt c3)
    refine lv_aload_n hx hb dX2_keep_7 rfl (lv_at hl 0 rfl) ?_
    refine va_get (D := D) (ci := 2) (v := .int (f 705)) (C := RX2) (T := TX2) (N := 3) hx hb hg inC2 hown hK hP 22 rfl rfl 1 (by decide) (hg _ wt1_207) (fun _ h9 => h9) rfl dX2_keep_8 ?_
    refine k_top (z := cnx) ecnx.symm ?_
    refine lv_bipush (v := 16) hx hb dX2_keep_11 (by decide) ?_
    refine lv_icmp_lt (tgt := 17) hx hb dX2_keep_13 (by decide) (fun c6 => ?_) (fun c6 => ?_)
    · have h7 := (kc_lt c6)
      refine lv_aload_n hx hb dX2_keep_17 rfl (lv_at hl 0 rfl) ?_
      refine va_get (D := D) (ci := 2) (v := .int (f 705)) (C := RX2) (T := TX2) (N := 3) hx hb hg inC2 hown hK hP 22 rfl rfl 1 (by decide) (hg _ wt1_207) (fun _ h9 => h9) rfl dX2_keep_18 ?_
      refine k_top (z := cnx) ecnx.symm ?_
      refine lv_bipush (v := 24) hx hb dX2_keep_21 (by decide) ?_
      refine lv_imul hx hb dX2_keep_23 ?_
      refine lv_topi (fun t8 et8 => ?_)
      have b9 : kb 0 t8 360 := kb_eq et8 (kb_mul b1 kc_24 (by decide) (by decide) (by decide))
      have qt8 : t8.toInt = cnx.toInt * 24 := by rw [et8]; exact kt_mulc b1 kc_24 (by decide) (by decide) (by decide)
      refine lv_istore_n (lv' := [(3, .int t8), (0, .ref (r 22)), (1, .int dd), (2, .ref (r 1))]) hx hb dX2_keep_24 rfl hl (by decide) rfl (fun ls hl => ?_)
      refine lv_aload_n hx hb dX2_keep_25 rfl (lv_at hl 1 rfl) ?_
      refine va_get (D := D) (ci := 2) (v := .ref (r 23)) (C := RX2) (T := TX2) (N := 3) hx hb hg inC2 hown hK hP 22 rfl rfl 2 (by decide) (hg _ wt1_208) (fun _ h9 => h9) rfl dX2_keep_26 ?_
      refine lv_iload_n hx hb dX2_keep_29 rfl (lv_at hl 0 rfl) ?_
      refine lv_iload_n hx hb dX2_keep_30 rfl (lv_at hl 2 rfl) ?_
      refine va_iast hx hb hK hP hD hS 23 0 rfl rfl (kb_in b9 (by decide) (by decide)) dX2_keep_31 (fun H locs hP hD hS => ?_)
      have hP : va_P D vwCl (xX K r f (va_up a 23 (upd (a 23) t8.toNatClampNeg dd)) g tx) H := hP
      have hD : va_D A (xX K r f (va_up a 23 (upd (a 23) t8.toNatClampNeg dd)) g tx) := hD
      refine k_gen (P := fun z => va_P D vwCl (xX K r f z g tx) H ∧ va_D A (xX K r f z g tx) ∧ (xI f z) ∧ (gOK K g.2 tt) ∧ (xEk ([704, 705], [23], []) f a g f z g)) (va_up a 23 (upd (a 23) t8.toNatClampNeg dd)) ⟨hP, hD, (xI_a hI (by decide)), hG, (xEk_a hE rfl)⟩ (fun a_10 ea_10 hq => ?_)
      obtain ⟨hP, hD, hI, hG, hE⟩ := hq
      refine lv_aload_n hx hb dX2_keep_32 rfl (lv_at hl 1 rfl) ?_
      refine va_get (D := D) (ci := 2) (v := .ref (r 23)) (C := RX2) (T := TX2) (N := 3) hx hb hg inC2 hown hK hP 22 rfl rfl 2 (by decide) (hg _ wt1_208) (fun _ h9 => h9) rfl dX2_keep_33 ?_
      refine lv_iload_n hx hb dX2_keep_36 rfl (lv_at hl 0 rfl) ?_
      refine lv_iconst (v := 1) hx hb dX2_keep_37 (by decide) ?_
      refine lv_iadd hx hb dX2_keep_38 ?_
      refine lv_topi (fun t11 et11 => ?_)
      have b12 : kb 1 t11 361 := kb_eq et11 (kb_add b9 kc_1 (by decide) (by decide))
      have qt11 : t11.toInt = t8.toInt + 1 := by rw [et11]; exact kt_addc b9 kc_1 (by decide) (by decide)
      refine lv_aload_n hx hb dX2_keep_39 rfl (lv_at hl 3 rfl) ?_
      refine va_get (D := D) (ci := 7) (v := .ref (r 11)) (C := RX7) (T := TX7) (N := 20) hx hb hg inC7 hown hK hP 1 rfl rfl 11 (by decide) (hg _ wt1_130) (fun _ h9 => h9) rfl dX2_keep_40 ?_
      refine lv_iconst (v := 0) hx hb dX2_keep_43 (by decide) ?_
      refine va_iald hx hb hK hP 11 0 rfl rfl (kb_in kc_0 (by decide) (by decide)) dX2_keep_44 ?_
      refine lv_topi (fun t13 et13 => ?_)
      rw [cl_0] at et13
      have kvt13 : t13 = k 22 := et13.trans ((congrFun (hE.2.1 11 rfl) (0)).trans (sv_hour hVw))
      have b14 : kb 0 t13 1000000 := kb_eq et13 (et13 ▸ kb_eq kvt13 (kK_r hkk 22 _ _ (by decide) (by decide)))
      refine va_iast hx hb hK hP hD hS 23 0 rfl rfl (kb_in b12 (by decide) (by decide)) dX2_keep_45 (fun H locs hP hD hS => ?_)
      have hP : va_P D vwCl (xX K r f (va_up a_10 23 (upd (a_10 23) t11.toNatClampNeg t13)) g tx) H := hP
      have hD : va_D A (xX K r f (va_up a_10 23 (upd (a_10 23) t11.toNatClampNeg t13)) g tx) := hD
      refine k_gen (P := fun z => va_P D vwCl (xX K r f z g tx) H ∧ va_D A (xX K r f z g tx) ∧ (xI f z) ∧ (gOK K g.2 tt) ∧ (xEk ([704, 705], [23], []) f a g f z g)) (va_up a_10 23 (upd (a_10 23) t11.toNatClampNeg t13)) ⟨hP, hD, (xI_a hI (by decide)), hG, (xEk_a hE rfl)⟩ (fun a_15 ea_15 hq => ?_)
      obtain ⟨hP, hD, hI, hG, hE⟩ := hq
      refine lv_aload_n hx hb dX2_keep_46 rfl (lv_at hl 3 rfl) ?_
      refine va_get (D := D) (ci := 7) (v := .ref (r 6)) (C := RX7) (T := TX7) (N := 20) hx hb hg inC7 hown hK hP 1 rfl rfl 5 (by decide) (hg _ wt1_101) (fun _ h9 => h9) rfl dX2_keep_47 ?_
      refine lv_iconst (v := 0) hx hb dX2_keep_50 (by decide) ?_
      refine lv_aload_n hx hb dX2_keep_51 rfl (lv_at hl 1 rfl) ?_
      refine va_get (D := D) (ci := 2) (v := .ref (r 23)) (C := RX2) (T := TX2) (N := 3) hx hb hg inC2 hown hK hP 22 rfl rfl 2 (by decide) (hg _ wt1_208) (fun _ h9 => h9) rfl dX2_keep_52 ?_
      refine lv_iload_n hx hb dX2_keep_55 rfl (lv_at hl 0 rfl) ?_
      refine lv_iconst (v := 2) hx hb dX2_keep_56 (by decide) ?_
      refine lv_iadd hx hb dX2_keep_57 ?_
      refine lv_topi (fun t16 et16 => ?_)
      have b17 : kb 2 t16 362 := kb_eq et16 (kb_add b9 kc_2 (by decide) (by decide))
      have qt16 : t16.toInt = t8.toInt + 2 := by rw [et16]; exact kt_addc b9 kc_2 (by decide) (by decide)
      refine lv_bipush (v := 10) hx hb dX2_keep_58 (by decide) ?_
      refine va_copyi (ty := .int) hx hb (hml.trans hl.1.symm) hown (hg _ wt4_88) (hg _ wt4_70) (hg _ wt4_69) (hg _ wt1_20) hK hP hD hS 6 23 0 0 rfl rfl rfl rfl rfl (by decide) (kb_nl b17 (by decide)) (by decide) (by decide +kernel) (by rw [cl_10]; exact kb_cpl b17 (by decide) (by decide)) (fun i _ => rfl) (by decide) (Nat.le_of_ble_eq_true rfl) dX2_keep_60 (fun H locs hP hD hS => ?_)
      have hP : va_P D vwCl (xX K r f (va_up a_15 23 (va_cpy (a_15 6) (a_15 23) (0 : Int32).toNatClampNeg t16.toNatClampNeg (10 : Int32).toNatClampNeg)) g tx) H := hP
      have hD : va_D A (xX K r f (va_up a_15 23 (va_cpy (a_15 6) (a_15 23) (0 : Int32).toNatClampNeg t16.toNatClampNeg (10 : Int32).toNatClampNeg)) g tx) := hD
      refine k_gen (P := fun z => va_P D vwCl (xX K r f z g tx) H ∧ va_D A (xX K r f z g tx) ∧ (xI f z) ∧ (gOK K g.2 tt) ∧ (xEk ([704, 705], [23], []) f a g f z g)) (va_up a_15 23 (va_cpy (a_15 6) (a_15 23) (0 : Int32).toNatClampNeg t16.toNatClampNeg (10 : Int32).toNatClampNeg)) ⟨hP, hD, (xI_a hI (by decide)), hG, (xEk_a hE rfl)⟩ (fun a_18 ea_18 hq => ?_)
      obtain ⟨hP, hD, hI, hG, hE⟩ := hq
      refine lv_aload_n hx hb dX2_keep_63 rfl (lv_at hl 3 rfl) ?_
      refine va_get (D := D) (ci := 7) (v := .ref (r 9)) (C := RX7) (T := TX7) (N := 20) hx hb hg inC7 hown hK hP 1 rfl rfl 9 (by decide) (hg _ wt1_118) (fun _ h9 => h9) rfl dX2_keep_64 ?_
      refine lv_iconst (v := 0) hx hb dX2_keep_67 (by decide) ?_
      refine lv_aload_n hx hb dX2_keep_68 rfl (lv_at hl 1 rfl) ?_
      refine va_get (D := D) (ci := 2) (v := .ref (r 23)) (C := RX2) (T := TX2) (N := 3) hx hb hg inC2 hown hK hP 22 rfl rfl 2 (by decide) (hg _ wt1_208) (fun _ h9 => h9) rfl dX2_keep_69 ?_
      refine lv_iload_n hx hb dX2_keep_72 rfl (lv_at hl 0 rfl) ?_
      refine lv_bipush (v := 12) hx hb dX2_keep_73 (by decide) ?_
      refine lv_iadd hx hb dX2_keep_75 ?_
      refine lv_topi (fun t19 et19 => ?_)
      have b20 : kb 12 t19 372 := kb_eq et19 (kb_add b9 kc_12 (by decide) (by decide))
      have qt19 : t19.toInt = t8.toInt + 12 := by rw [et19]; exact kt_addc b9 kc_12 (by decide) (by decide)
      refine lv_bipush (v := 6) hx hb dX2_keep_76 (by decide) ?_
      refine va_copyi (ty := .int) hx hb (hml.trans hl.1.symm) hown (hg _ wt4_88) (hg _ wt4_70) (hg _ wt4_69) (hg _ wt1_20) hK hP hD hS 9 23 0 0 rfl rfl rfl rfl rfl (by decide) (kb_nl b20 (by decide)) (by decide) (by decide +kernel) (by rw [cl_6]; exact kb_cpl b20 (by decide) (by decide)) (fun i _ => rfl) (by decide) (Nat.le_of_ble_eq_true rfl) dX2_keep_78 (fun H locs hP hD hS => ?_)
      have hP : va_P D vwCl (xX K r f (va_up a_18 23 (va_cpy (a_18 9) (a_18 23) (0 : Int32).toNatClampNeg t19.toNatClampNeg (6 : Int32).toNatClampNeg)) g tx) H := hP
      have hD : va_D A (xX K r f (va_up a_18 23 (va_cpy (a_18 9) (a_18 23) (0 : Int32).toNatClampNeg t19.toNatClampNeg (6 : Int32).toNatClampNeg)) g tx) := hD
      refine k_gen (P := fun z => va_P D vwCl (xX K r f z g tx) H ∧ va_D A (xX K r f z g tx) ∧ (xI f z) ∧ (gOK K g.2 tt) ∧ (xEk ([704, 705], [23], []) f a g f z g)) (va_up a_18 23 (va_cpy (a_18 9) (a_18 23) (0 : Int32).toNatClampNeg t19.toNatClampNeg (6 : Int32).toNatClampNeg)) ⟨hP, hD, (xI_a hI (by decide)), hG, (xEk_a hE rfl)⟩ (fun a_21 ea_21 hq => ?_)
      obtain ⟨hP, hD, hI, hG, hE⟩ := hq
      refine lv_aload_n hx hb dX2_keep_81 rfl (lv_at hl 3 rfl) ?_
      refine va_get (D := D) (ci := 7) (v := .ref (r 10)) (C := RX7) (T := TX7) (N := 20) hx hb hg inC7 hown hK hP 1 rfl rfl 10 (by decide) (hg _ wt1_124) (fun _ h9 => h9) rfl dX2_keep_82 ?_
      refine lv_iconst (v := 0) hx hb dX2_keep_85 (by decide) ?_
      refine lv_aload_n hx hb dX2_keep_86 rfl (lv_at hl 1 rfl) ?_
      refine va_get (D := D) (ci := 2) (v := .ref (r 23)) (C := RX2) (T := TX2) (N := 3) hx hb hg inC2 hown hK hP 22 rfl rfl 2 (by decide) (hg _ wt1_208) (fun _ h9 => h9) rfl dX2_keep_87 ?_
      refine lv_iload_n hx hb dX2_keep_90 rfl (lv_at hl 0 rfl) ?_
      refine lv_bipush (v := 18) hx hb dX2_keep_91 (by decide) ?_
      refine lv_iadd hx hb dX2_keep_93 ?_
      refine lv_topi (fun t22 et22 => ?_)
      have b23 : kb 18 t22 378 := kb_eq et22 (kb_add b9 kc_18 (by decide) (by decide))
      have qt22 : t22.toInt = t8.toInt + 18 := by rw [et22]; exact kt_addc b9 kc_18 (by decide) (by decide)
      refine lv_bipush (v := 6) hx hb dX2_keep_94 (by decide) ?_
      refine va_copyi (ty := .int) hx hb (hml.trans hl.1.symm) hown (hg _ wt4_88) (hg _ wt4_70) (hg _ wt4_69) (hg _ wt1_20) hK hP hD hS 10 23 0 0 rfl rfl rfl rfl rfl (by decide) (kb_nl b23 (by decide)) (by decide) (by decide +kernel) (by rw [cl_6]; exact kb_cpl b23 (by decide) (by decide)) (fun i _ => rfl) (by decide) (Nat.le_of_ble_eq_true rfl) dX2_keep_96 (fun H locs hP hD hS => ?_)
      have hP : va_P D vwCl (xX K r f (va_up a_21 23 (va_cpy (a_21 10) (a_21 23) (0 : Int32).toNatClampNeg t22.toNatClampNeg (6 : Int32).toNatClampNeg)) g tx) H := hP
      have hD : va_D A (xX K r f (va_up a_21 23 (va_cpy (a_21 10) (a_21 23) (0 : Int32).toNatClampNeg t22.toNatClampNeg (6 : Int32).toNatClampNeg)) g tx) := hD
      refine k_gen (P := fun z => va_P D vwCl (xX K r f z g tx) H ∧ va_D A (xX K r f z g tx) ∧ (xI f z) ∧ (gOK K g.2 tt) ∧ (xEk ([704, 705], [23], []) f a g f z g)) (va_up a_21 23 (va_cpy (a_21 10) (a_21 23) (0 : Int32).toNatClampNeg t22.toNatClampNeg (6 : Int32).toNatClampNeg)) ⟨hP, hD, (xI_a hI (by decide)), hG, (xEk_a hE rfl)⟩ (fun a_24 ea_24 hq => ?_)
      obtain ⟨hP, hD, hI, hG, hE⟩ := hq
      refine lv_aload_n hx hb dX2_keep_99 rfl (lv_at hl 1 rfl) ?_
      refine lv_aload_n hx hb dX2_keep_100 rfl (lv_at hl 1 rfl) ?_
      refine va_get (D := D) (ci := 2) (v := .int (f 705)) (C := RX2) (T := TX2) (N := 3) hx hb hg inC2 hown hK hP 22 rfl rfl 1 (by decide) (hg _ wt1_207) (fun _ h9 => h9) rfl dX2_keep_101 ?_
      refine k_top (z := cnx) ecnx.symm ?_
      refine lv_iconst (v := 1) hx hb dX2_keep_104 (by decide) ?_
      refine lv_iadd hx hb dX2_keep_105 ?_
      refine lv_topi (fun t25 et25 => ?_)
      have b26 : kb 1 t25 16 := kb_eq et25 (kb_add b1 kc_1 (by decide) (by decide))
      have qt25 : t25.toInt = cnx.toInt + 1 := by rw [et25]; exact kt_addc b1 kc_1 (by decide) (by decide)
      refine lv_bipush (v := 16) hx hb dX2_keep_106 (by decide) ?_
      refine lv_irem hx hb dX2_keep_108 (by decide +kernel) ?_
      refine lv_topi (fun t27 et27 => ?_)
      have b28 : kb 0 t27 15 := kb_eq et27 (kb_rem (d := 16) b26 (by decide) rfl (by decide) (by decide))
      refine va_put (D := D) (ci := 2) (v := .int t27) (ty := .int) (C := RX2) (T := TX2) (N := 3) hx hb hg inC2 tyX2 tyX2_ok nmX2 hown hK hP hD hS 22 rfl rfl 1 (by decide) (hg _ wt1_207) (fun _ h9 => h9) rfl (by decide +kernel) rfl rfl (Nat.le_of_ble_eq_true rfl) dX2_keep_109 (fun H locs hP hD hS => ?_)
      have hP : va_P D vwCl (xX K r (upd f 705 t27) a_24 g tx) H := hP
      have hD : va_D A (xX K r (upd f 705 t27) a_24 g tx) := hD
      refine k_gen (P := fun z => va_P D vwCl (xX K r z a_24 g tx) H ∧ va_D A (xX K r z a_24 g tx) ∧ (xI z a_24) ∧ (gOK K g.2 tt) ∧ (xEk ([704, 705], [23], []) f a g z a_24 g)) (upd f 705 t27) ⟨hP, hD, (xI_f hI (fI_st hI.1 705 b28 (by decide) (by decide))), hG, (xEk_f hE rfl)⟩ (fun f_29 ef_29 hq => ?_)
      obtain ⟨hP, hD, hI, hG, hE⟩ := hq
      refine lv_aload_n hx hb dX2_keep_112 rfl (lv_at hl 1 rfl) ?_
      refine lv_bipush (v := 16) hx hb dX2_keep_113 (by decide) ?_
      refine lv_aload_n hx hb dX2_keep_115 rfl (lv_at hl 1 rfl) ?_
      refine va_get (D := D) (ci := 2) (v := .int (f_29 704)) (C := RX2) (T := TX2) (N := 3) hx hb hg inC2 hown hK hP 22 rfl rfl 0 (by decide) (hg _ wt1_205) (fun _ h9 => h9) rfl dX2_keep_116 ?_
      refine k_top (z := ckp) ((show f_29 704 = f 704 from by rw [← ef_29]; rfl).trans eckp.symm) ?_
      refine lv_iconst (v := 1) hx hb dX2_keep_119 (by decide) ?_
      refine lv_iadd hx hb dX2_keep_120 ?_
      refine lv_topi (fun t30 et30 => ?_)
      have b31 : kb 1 t30 17 := kb_eq et30 (kb_add b2 kc_1 (by decide) (by decide))
      have qt30 : t30.toInt = ckp.toInt + 1 := by rw [et30]; exact kt_addc b2 kc_1 (by decide) (by decide)
      refine va_mmin hx hb (hml.trans hl.1.symm) hown (hg _ wt4_121) (hg _ wt3_52) (hg _ wt1_9) (hg _ wt3_53) (by decide) (Nat.le_of_ble_eq_true rfl) (by decide) (by decide) dX2_keep_121 ?_
      refine lv_topi (fun t32 et32 => ?_)
      have b33 : kb 1 t32 16 := kb_eq et32 (kb_mn kc_16 b31 (by decide) (by decide) (by decide) (by decide))
      refine va_put (D := D) (ci := 2) (v := .int t32) (ty := .int) (C := RX2) (T := TX2) (N := 3) hx hb hg inC2 tyX2 tyX2_ok nmX2 hown hK hP hD hS 22 rfl rfl 0 (by decide) (hg _ wt1_205) (fun _ h9 => h9) rfl (by decide +kernel) rfl rfl (Nat.le_of_ble_eq_true rfl) dX2_keep_124 (fun H locs hP hD hS => ?_)
      have hP : va_P D vwCl (xX K r (upd f_29 704 t32) a_24 g tx) H := hP
      have hD : va_D A (xX K r (upd f_29 704 t32) a_24 g tx) := hD
      refine k_gen (P := fun z => va_P D vwCl (xX K r z a_24 g tx) H ∧ va_D A (xX K r z a_24 g tx) ∧ (xI z a_24) ∧ (gOK K g.2 tt) ∧ (xEk ([704, 705], [23], []) f a g z a_24 g)) (upd f_29 704 t32) ⟨hP, hD, (xI_f hI (fI_st hI.1 704 (kb_any _) (by decide) (by decide))), hG, (xEk_f hE rfl)⟩ (fun f_34 ef_34 hq => ?_)
      obtain ⟨hP, hD, hI, hG, hE⟩ := hq
      exact kV_ret hx hb hr hlocks hK hS dX2_keep_127 (f_34, a_24, g) hP hD ⟨hI, hG, hE, (xP_keep hp0 (by rw [← ecnx]; exact (kp_R (nb := (kBn k)) (k := k) (show t8.toNatClampNeg = 24 * cnx.toInt.toNat from by have w1 := qt8; have w3 := (b9).1; have w4 := bnx9.1; unfold Int32.toNatClampNeg; omega) (show t11.toNatClampNeg = 24 * cnx.toInt.toNat + 1 from by have w1 := qt8; have w2 := qt11; have w3 := (b12).1; have w4 := bnx9.1; unfold Int32.toNatClampNeg; omega) (show t16.toNatClampNeg = 24 * cnx.toInt.toNat + 2 from by have w1 := qt8; have w2 := qt16; have w3 := (b17).1; have w4 := bnx9.1; unfold Int32.toNatClampNeg; omega) (show t19.toNatClampNeg = 24 * cnx.toInt.toNat + 12 from by have w1 := qt8; have w2 := qt19; have w3 := (b20).1; have w4 := bnx9.1; unfold Int32.toNatClampNeg; omega) (show t22.toNatClampNeg = 24 * cnx.toInt.toNat + 18 from by have w1 := qt8; have w2 := qt22; have w3 := (b23).1; have w4 := bnx9.1; unfold Int32.toNatClampNeg; omega) (by decide +kernel) (by decide +kernel) (by decide +kernel) (by decide +kernel) (by decide +kernel) (by decide +kernel) kvt13 (fun i hi => (congrFun ((show a_15 6 = a_10 6 from by rw [← ea_15]; rfl).trans (show a_10 6 = a 6 from by rw [← ea_10]; rfl)) _).trans (sv_left hVw hi)) (fun i hi => (congrFun ((show a_18 9 = a_15 9 from by rw [← ea_18]; rfl).trans ((show a_15 9 = a_10 9 from by rw [← ea_15]; rfl).trans (show a_10 9 = a 9 from by rw [← ea_10]; rfl))) _).trans (sv_tired hVw hi)) (fun i hi hn => (congrFun ((show a_21 10 = a_18 10 from by rw [← ea_21]; rfl).trans ((show a_18 10 = a_15 10 from by rw [← ea_18]; rfl).trans ((show a_15 10 = a_10 10 from by rw [← ea_15]; rfl).trans (show a_10 10 = a 10 from by rw [← ea_10]; rfl)))) _).trans (sv_place hVw hi (by have w9 := (kBn_b hkk).2; omega))) ((show a_24 23 = va_cpy (a_21 10) (a_21 23) (0 : Int32).toNatClampNeg t22.toNatClampNeg (6 : Int32).toNatClampNeg from by rw [← ea_24]; rfl).trans (congrArg (fun z => va_cpy (a_21 10) z (0 : Int32).toNatClampNeg t22.toNatClampNeg (6 : Int32).toNatClampNeg) ((show a_21 23 = va_cpy (a_18 9) (a_18 23) (0 : Int32).toNatClampNeg t19.toNatClampNeg (6 : Int32).toNatClampNeg from by rw [← ea_21]; rfl).trans (congrArg (fun z => va_cpy (a_18 9) z (0 : Int32).toNatClampNeg t19.toNatClampNeg (6 : Int32).toNatClampNeg) ((show a_18 23 = va_cpy (a_15 6) (a_15 23) (0 : Int32).toNatClampNeg t16.toNatClampNeg (10 : Int32).toNatClampNeg from by rw [← ea_18]; rfl).trans (congrArg (fun z => va_cpy (a_15 6) z (0 : Int32).toNatClampNeg t16.toNatClampNeg (10 : Int32).toNatClampNeg) ((show a_15 23 = upd (a_10 23) t11.toNatClampNeg t13 from by rw [← ea_15]; rfl).trans (congrArg (fun z => upd z t11.toNatClampNeg t13) (show a_10 23 = upd (a 23) t8.toNatClampNeg dd from by rw [← ea_10]; rfl)))))))))).1) (by rw [← ecnx]; exact (kp_R (nb := (kBn k)) (k := k) (show t8.toNatClampNeg = 24 * cnx.toInt.toNat from by have w1 := qt8; have w3 := (b9).1; have w4 := bnx9.1; unfold Int32.toNatClampNeg; omega) (show t11.toNatClampNeg = 24 * cnx.toInt.toNat + 1 from by have w1 := qt8; have w2 := qt11; have w3 := (b12).1; have w4 := bnx9.1; unfold Int32.toNatClampNeg; omega) (show t16.toNatClampNeg = 24 * cnx.toInt.toNat + 2 from by have w1 := qt8; have w2 := qt16; have w3 := (b17).1; have w4 := bnx9.1; unfold Int32.toNatClampNeg; omega) (show t19.toNatClampNeg = 24 * cnx.toInt.toNat + 12 from by have w1 := qt8; have w2 := qt19; have w3 := (b20).1; have w4 := bnx9.1; unfold Int32.toNatClampNeg; omega) (show t22.toNatClampNeg = 24 * cnx.toInt.toNat + 18 from by have w1 := qt8; have w2 := qt22; have w3 := (b23).1; have w4 := bnx9.1; unfold Int32.toNatClampNeg; omega) (by decide +kernel) (by decide +kernel) (by decide +kernel) (by decide +kernel) (by decide +kernel) (by decide +kernel) kvt13 (fun i hi => (congrFun ((show a_15 6 = a_10 6 from by rw [← ea_15]; rfl).trans (show a_10 6 = a 6 from by rw [← ea_10]; rfl)) _).trans (sv_left hVw hi)) (fun i hi => (congrFun ((show a_18 9 = a_15 9 from by rw [← ea_18]; rfl).trans ((show a_15 9 = a_10 9 from by rw [← ea_15]; rfl).trans (show a_10 9 = a 9 from by rw [← ea_10]; rfl))) _).trans (sv_tired hVw hi)) (fun i hi hn => (congrFun ((show a_21 10 = a_18 10 from by rw [← ea_21]; rfl).trans ((show a_18 10 = a_15 10 from by rw [← ea_18]; rfl).trans ((show a_15 10 = a_10 10 from by rw [← ea_15]; rfl).trans (show a_10 10 = a 10 from by rw [← ea_10]; rfl)))) _).trans (sv_place hVw hi (by have w9 := (kBn_b hkk).2; omega))) ((show a_24 23 = va_cpy (a_21 10) (a_21 23) (0 : Int32).toNatClampNeg t22.toNatClampNeg (6 : Int32).toNatClampNeg from by rw [← ea_24]; rfl).trans (congrArg (fun z => va_cpy (a_21 10) z (0 : Int32).toNatClampNeg t22.toNatClampNeg (6 : Int32).toNatClampNeg) ((show a_21 23 = va_cpy (a_18 9) (a_18 23) (0 : Int32).toNatClampNeg t19.toNatClampNeg (6 : Int32).toNatClampNeg from by rw [← ea_21]; rfl).trans (congrArg (fun z => va_cpy (a_18 9) z (0 : Int32).toNatClampNeg t19.toNatClampNeg (6 : Int32).toNatClampNeg) ((show a_18 23 = va_cpy (a_15 6) (a_15 23) (0 : Int32).toNatClampNeg t16.toNatClampNeg (10 : Int32).toNatClampNeg from by rw [← ea_18]; rfl).trans (congrArg (fun z => va_cpy (a_15 6) z (0 : Int32).toNatClampNeg t16.toNatClampNeg (10 : Int32).toNatClampNeg) ((show a_15 23 = upd (a_10 23) t11.toNatClampNeg t13 from by rw [← ea_15]; rfl).trans (congrArg (fun z => upd z t11.toNatClampNeg t13) (show a_10 23 = upd (a 23) t8.toNatClampNeg dd from by rw [← ea_10]; rfl)))))))))).2) (by show (f_34 705).toInt = _; rw [((show f_34 705 = f_29 705 from by rw [← ef_34]; rfl).trans (show f_29 705 = t27 from by rw [← ef_29]; rfl))]; have w1 := rem_v b26 (by decide) et27; have w2 := qt25; rw [← ecnx]; omega) (by show (f_34 704).toInt = _; rw [(show f_34 704 = t32 from by rw [← ef_34]; rfl), et32, mn_v]; have w2 := qt30; have w3 : (16 : Int32).toInt = 16 := (by decide +kernel); rw [← eckp]; omega))⟩
    · have h35 := (kc_nlt c6)
      exact kb_no (kr_le1 h35 kc_16 b1) (by decide)
set_option maxHeartbeats 4000000 in
set_option maxRecDepth 100000 in
theorem z_restoreLatest  (l : Launch) {D : va_G} {K : Nat → ClassId} (r : Nat → Nat) (f : Nat → Int32) (a : Nat → Nat → Int32) (g : xG) (tx tt : va_W) (hT : ∀ c ∈ tt, c ∈ tx) (hI : xI f a) (hG : gOK K g.2 tt)   (k : Nat → Int32) (hVw : sV 32 2 f a k) (hkk : kK k) (P : pS) (hp0 : xPs (f 704) (f 705) (a 23) P (kBn k)) : kIG l yX2_restoreLatest (Cond.code yX2_restoreLatest cX2_restoreLatest 3 (some .int) :: kG) (rmD 2 0 0) D K [.ref (r 22), .ref (r 1)] (xX K r f a g tx) (fun v (u : xS) => kb (-2147483648) v 2147483647 ∧ xI u.1 u.2.1 ∧ gOK K u.2.2.2 tt ∧ xEk ([704, 705], [6, 9, 10, 11], []) f a g u.1 u.2.1 u.2.2 ∧ xDd 32 2 v u.1 u.2.1 (udF k P) (kBn k)) (fun u => xX K r u.1 u.2.1 u.2.2 tx) 0 0 := by
  refine kIE.of (cc := cX2_restoreLatest) (maxL := 3) (ret := (some .int)) (by decide) rfl (Nat.le_of_ble_eq_true rfl) ?_
  intro p e s m below meth c A hx hb hr hml hown hts hlocks hnm hK hP hD hS hA hV ls hl
  have hE : xEk ([704, 705], [6, 9, 10, 11], []) f a g f a g := xEk_rf
  have hg : ∀ w ∈ kG, w.before _ s = true := fun w h => hts w (List.mem_cons_of_mem _ h)
  have hown : s.vm.findClass RX2 = some m.cls := hown
  have hl : lv_has ls 3 [(0, .ref (r 22)), (1, .ref (r 1))] := hl
  obtain ⟨cnx, ecnx⟩ : ∃ z : Int32, z = f 705 := ⟨_, rfl⟩
  have b1 : kb 0 cnx 15 := ⟨by rw [ecnx]; exact hp0.2.2.1, by rw [ecnx]; have w1 := hp0.2.2.2.1; omega⟩
  have bnx9 := b1
  obtain ⟨ckp, eckp⟩ : ∃ z : Int32, z = f 704 := ⟨_, rfl⟩
  have b2 : kb 0 ckp 16 := ⟨by rw [eckp, hp0.1]; exact Int.natCast_nonneg _, by rw [eckp, hp0.1]; have w1 := hp0.2.1; omega⟩
  refine lv_aload_n hx hb dX2_restoreLatest_0 rfl (lv_at hl 0 rfl) ?_
  refine va_get (D := D) (ci := 2) (v := .int (f 704)) (C := RX2) (T := TX2) (N := 3) hx hb hg inC2 hown hK hP 22 rfl rfl 0 (by decide) (hg _ wt1_205) (fun _ h9 => h9) rfl dX2_restoreLatest_1 ?_
  refine k_top (z := ckp) eckp.symm ?_
  refine lv_if_gt (tgt := 10) hx hb dX2_restoreLatest_4 (by decide) (fun c3 => ?_) (fun c3 => ?_)
  · have h4 := (kc_lt c3)
    have b5 : kb 1 ckp 16 := kr_lt2 h4 kc_0 b2 (by decide)
    have hP0 : ¬ P.1 = 0 := fun w9 => by have w1 := hp0.1; rw [← eckp] at w1; have w2 := (b5).1; omega
    refine lv_aload_n hx hb dX2_restoreLatest_10 rfl (lv_at hl 0 rfl) ?_
    refine lv_dup hx hb dX2_restoreLatest_11 rfl ?_
    refine va_get (D := D) (ci := 2) (v := .int (f 704)) (C := RX2) (T := TX2) (N := 3) hx hb hg inC2 hown hK hP 22 rfl rfl 0 (by decide) (hg _ wt1_205) (fun _ h9 => h9) rfl dX2_restoreLatest_12 ?_
    refine k_top (z := ckp) eckp.symm ?_
    refine lv_iconst (v := 1) hx hb dX2_restoreLatest_15 (by decide) ?_
    refine lv_isub hx hb dX2_restoreLatest_16 ?_
    refine lv_topi (fun t6 et6 => ?_)
    have b7 : kb 0 t6 15 := kb_eq et6 (kb_sub b5 kc_1 (by decide) (by decide))
    have qt6 : t6.toInt = ckp.toInt - 1 := by rw [et6]; exact kt_subc b5 kc_1 (by decide) (by decide)
    refine va_put (D := D) (ci := 2) (v := .int t6) (ty := .int) (C := RX2) (T := TX2) (N := 3) hx hb hg inC2 tyX2 tyX2_ok nmX2 hown hK hP hD hS 22 rfl rfl 0 (by decide) (hg _ wt1_205) (fun _ h9 => h9) rfl (by decide +kernel) rfl rfl (Nat.le_of_ble_eq_true rfl) dX2_restoreLatest_17 (fun H locs hP hD hS => ?_)
    have hP : va_P D vwCl (xX K r (upd f 704 t6) a g tx) H := hP
    have hD : va_D A (xX K r (upd f 704 t6) a g tx) := hD
    refine k_gen (P := fun z => va_P D vwCl (xX K r z a g tx) H ∧ va_D A (xX K r z a g tx) ∧ (xI z a) ∧ (gOK K g.2 tt) ∧ (xEk ([704, 705], [6, 9, 10, 11], []) f a g z a g)) (upd f 704 t6) ⟨hP, hD, (xI_f hI (fI_st hI.1 704 (kb_any _) (by decide) (by decide))), hG, (xEk_f hE rfl)⟩ (fun f_8 ef_8 hq => ?_)
    obtain ⟨hP, hD, hI, hG, hE⟩ := hq
    refine lv_aload_n hx hb dX2_restoreLatest_20 rfl (lv_at hl 0 rfl) ?_
    refine lv_aload_n hx hb dX2_restoreLatest_21 rfl (lv_at hl 0 rfl) ?_
    refine va_get (D := D) (ci := 2) (v := .int (f_8 705)) (C := RX2) (T := TX2) (N := 3) hx hb hg inC2 hown hK hP 22 rfl rfl 1 (by decide) (hg _ wt1_207) (fun _ h9 => h9) rfl dX2_restoreLatest_22 ?_
    refine k_top (z := cnx) ((show f_8 705 = f 705 from by rw [← ef_8]; rfl).trans ecnx.symm) ?_
    refine lv_bipush (v := 16) hx hb dX2_restoreLatest_25 (by decide) ?_
    refine lv_iadd hx hb dX2_restoreLatest_27 ?_
    refine lv_topi (fun t9 et9 => ?_)
    have b10 : kb 16 t9 31 := kb_eq et9 (kb_add b1 kc_16 (by decide) (by decide))
    have qt9 : t9.toInt = cnx.toInt + 16 := by rw [et9]; exact kt_addc b1 kc_16 (by decide) (by decide)
    refine lv_iconst (v := 1) hx hb dX2_restoreLatest_28 (by decide) ?_
    refine lv_isub hx hb dX2_restoreLatest_29 ?_
    refine lv_topi (fun t11 et11 => ?_)
    have b12 : kb 15 t11 30 := kb_eq et11 (kb_sub b10 kc_1 (by decide) (by decide))
    have qt11 : t11.toInt = t9.toInt - 1 := by rw [et11]; exact kt_subc b10 kc_1 (by decide) (by decide)
    refine lv_bipush (v := 16) hx hb dX2_restoreLatest_30 (by decide) ?_
    refine lv_irem hx hb dX2_restoreLatest_32 (by decide +kernel) ?_
    refine lv_topi (fun t13 et13 => ?_)
    have b14 : kb 0 t13 15 := kb_eq et13 (kb_rem (d := 16) b12 (by decide) rfl (by decide) (by decide))
    refine va_put (D := D) (ci := 2) (v := .int t13) (ty := .int) (C := RX2) (T := TX2) (N := 3) hx hb hg inC2 tyX2 tyX2_ok nmX2 hown hK hP hD hS 22 rfl rfl 1 (by decide) (hg _ wt1_207) (fun _ h9 => h9) rfl (by decide +kernel) rfl rfl (Nat.le_of_ble_eq_true rfl) dX2_restoreLatest_33 (fun H locs hP hD hS => ?_)
    have hP : va_P D vwCl (xX K r (upd f_8 705 t13) a g tx) H := hP
    have hD : va_D A (xX K r (upd f_8 705 t13) a g tx) := hD
    refine k_gen (P := fun z => va_P D vwCl (xX K r z a g tx) H ∧ va_D A (xX K r z a g tx) ∧ (xI z a) ∧ (gOK K g.2 tt) ∧ (xEk ([704, 705], [6, 9, 10, 11], []) f a g z a g)) (upd f_8 705 t13) ⟨hP, hD, (xI_f hI (fI_st hI.1 705 b14 (by decide) (by decide))), hG, (xEk_f hE rfl)⟩ (fun f_15 ef_15 hq => ?_)
    obtain ⟨hP, hD, hI, hG, hE⟩ := hq
    refine lv_aload_n hx hb dX2_restoreLatest_36 rfl (lv_at hl 0 rfl) ?_
    refine va_get (D := D) (ci := 2) (v := .int (f_15 705)) (C := RX2) (T := TX2) (N := 3) hx hb hg inC2 hown hK hP 22 rfl rfl 1 (by decide) (hg _ wt1_207) (fun _ h9 => h9) rfl dX2_restoreLatest_37 ?_
    refine k_top (z := t13) (show f_15 705 = t13 from by rw [← ef_15]; rfl) ?_
    refine lv_bipush (v := 24) hx hb dX2_restoreLatest_40 (by decide) ?_
    refine lv_imul hx hb dX2_restoreLatest_42 ?_
    refine lv_topi (fun t16 et16 => ?_)
    have b17 : kb 0 t16 360 := kb_eq et16 (kb_mul b14 kc_24 (by decide) (by decide) (by decide))
    have qt16 : t16.toInt = t13.toInt * 24 := by rw [et16]; exact kt_mulc b14 kc_24 (by decide) (by decide) (by decide)
    refine lv_istore_n (lv' := [(2, .int t16), (0, .ref (r 22)), (1, .ref (r 1))]) hx hb dX2_restoreLatest_43 rfl hl (by decide) rfl (fun ls hl => ?_)
    have hun := xP_un hp0 hP0 (kp' := t6) (nx' := t13) (by rw [← eckp]; exact qt6) (by have w1 := rem_v b12 (by decide) et13; have w2 := qt11; have w3 := qt9; rw [← ecnx]; omega)
    refine lv_aload_n hx hb dX2_restoreLatest_44 rfl (lv_at hl 2 rfl) ?_
    refine va_get (D := D) (ci := 7) (v := .ref (r 11)) (C := RX7) (T := TX7) (N := 20) hx hb hg inC7 hown hK hP 1 rfl rfl 11 (by decide) (hg _ wt1_130) (fun _ h9 => h9) rfl dX2_restoreLatest_45 ?_
    refine lv_iconst (v := 0) hx hb dX2_restoreLatest_48 (by decide) ?_
    refine lv_aload_n hx hb dX2_restoreLatest_49 rfl (lv_at hl 1 rfl) ?_
    refine va_get (D := D) (ci := 2) (v := .ref (r 23)) (C := RX2) (T := TX2) (N := 3) hx hb hg inC2 hown hK hP 22 rfl rfl 2 (by decide) (hg _ wt1_208) (fun _ h9 => h9) rfl dX2_restoreLatest_50 ?_
    refine lv_iload_n hx hb dX2_restoreLatest_53 rfl (lv_at hl 0 rfl) ?_
    refine lv_iconst (v := 1) hx hb dX2_restoreLatest_54 (by decide) ?_
    refine lv_iadd hx hb dX2_restoreLatest_55 ?_
    refine lv_topi (fun t18 et18 => ?_)
    have b19 : kb 1 t18 361 := kb_eq et18 (kb_add b17 kc_1 (by decide) (by decide))
    have qt18 : t18.toInt = t16.toInt + 1 := by rw [et18]; exact kt_addc b17 kc_1 (by decide) (by decide)
    refine va_iald hx hb hK hP 23 0 rfl rfl (kb_in b19 (by decide) (by decide)) dX2_restoreLatest_56 ?_
    refine lv_topi (fun t20 et20 => ?_)
    refine va_iast hx hb hK hP hD hS 11 0 rfl rfl (kb_in kc_0 (by decide) (by decide)) dX2_restoreLatest_57 (fun H locs hP hD hS => ?_)
    rw [cl_0] at hP hD
    have hP : va_P D vwCl (xX K r f_15 (va_up a 11 (upd (a 11) 0 t20)) g tx) H := hP
    have hD : va_D A (xX K r f_15 (va_up a 11 (upd (a 11) 0 t20)) g tx) := hD
    refine k_gen (P := fun z => va_P D vwCl (xX K r f_15 z g tx) H ∧ va_D A (xX K r f_15 z g tx) ∧ (xI f_15 z) ∧ (gOK K g.2 tt) ∧ (xEk ([704, 705], [6, 9, 10, 11], []) f a g f_15 z g)) (va_up a 11 (upd (a 11) 0 t20)) ⟨hP, hD, (xI_a hI (by decide)), hG, (xEk_a hE rfl)⟩ (fun a_21 ea_21 hq => ?_)
    obtain ⟨hP, hD, hI, hG, hE⟩ := hq
    refine lv_aload_n hx hb dX2_restoreLatest_58 rfl (lv_at hl 1 rfl) ?_
    refine va_get (D := D) (ci := 2) (v := .ref (r 23)) (C := RX2) (T := TX2) (N := 3) hx hb hg inC2 hown hK hP 22 rfl rfl 2 (by decide) (hg _ wt1_208) (fun _ h9 => h9) rfl dX2_restoreLatest_59 ?_
    refine lv_iload_n hx hb dX2_restoreLatest_62 rfl (lv_at hl 0 rfl) ?_
    refine lv_iconst (v := 2) hx hb dX2_restoreLatest_63 (by decide) ?_
    refine lv_iadd hx hb dX2_restoreLatest_64 ?_
    refine lv_topi (fun t22 et22 => ?_)
    have b23 : kb 2 t22 362 := kb_eq et22 (kb_add b17 kc_2 (by decide) (by decide))
    have qt22 : t22.toInt = t16.toInt + 2 := by rw [et22]; exact kt_addc b17 kc_2 (by decide) (by decide)
    refine lv_aload_n hx hb dX2_restoreLatest_65 rfl (lv_at hl 2 rfl) ?_
    refine va_get (D := D) (ci := 7) (v := .ref (r 6)) (C := RX7) (T := TX7) (N := 20) hx hb hg inC7 hown hK hP 1 rfl rfl 5 (by decide) (hg _ wt1_101) (fun _ h9 => h9) rfl dX2_restoreLatest_66 ?_
    refine lv_iconst (v := 0) hx hb dX2_restoreLatest_69 (by decide) ?_
    refine lv_bipush (v := 10) hx hb dX2_restoreLatest_70 (by decide) ?_
    refine va_copyi (ty := .int) hx hb (hml.trans hl.1.symm) hown (hg _ wt4_88) (hg _ wt4_70) (hg _ wt4_69) (hg _ wt1_20) hK hP hD hS 23 6 0 0 rfl rfl rfl rfl rfl (kb_nl b23 (by decide)) (by decide) (by decide) (by rw [cl_10]; exact kb_cpl b23 (by decide) (by decide)) (by decide +kernel) (fun i _ => rfl) (by decide) (Nat.le_of_ble_eq_true rfl) dX2_restoreLatest_72 (fun H locs hP hD hS => ?_)
    have hP : va_P D vwCl (xX K r f_15 (va_up a_21 6 (va_cpy (a_21 23) (a_21 6) t22.toNatClampNeg (0 : Int32).toNatClampNeg (10 : Int32).toNatClampNeg)) g tx) H := hP
    have hD : va_D A (xX K r f_15 (va_up a_21 6 (va_cpy (a_21 23) (a_21 6) t22.toNatClampNeg (0 : Int32).toNatClampNeg (10 : Int32).toNatClampNeg)) g tx) := hD
    refine k_gen (P := fun z => va_P D vwCl (xX K r f_15 z g tx) H ∧ va_D A (xX K r f_15 z g tx) ∧ (xI f_15 z) ∧ (gOK K g.2 tt) ∧ (xEk ([704, 705], [6, 9, 10, 11], []) f a g f_15 z g)) (va_up a_21 6 (va_cpy (a_21 23) (a_21 6) t22.toNatClampNeg (0 : Int32).toNatClampNeg (10 : Int32).toNatClampNeg)) ⟨hP, hD, (xI_a hI (by decide)), hG, (xEk_a hE rfl)⟩ (fun a_24 ea_24 hq => ?_)
    obtain ⟨hP, hD, hI, hG, hE⟩ := hq
    refine lv_aload_n hx hb dX2_restoreLatest_75 rfl (lv_at hl 1 rfl) ?_
    refine va_get (D := D) (ci := 2) (v := .ref (r 23)) (C := RX2) (T := TX2) (N := 3) hx hb hg inC2 hown hK hP 22 rfl rfl 2 (by decide) (hg _ wt1_208) (fun _ h9 => h9) rfl dX2_restoreLatest_76 ?_
    refine lv_iload_n hx hb dX2_restoreLatest_79 rfl (lv_at hl 0 rfl) ?_
    refine lv_bipush (v := 12) hx hb dX2_restoreLatest_80 (by decide) ?_
    refine lv_iadd hx hb dX2_restoreLatest_82 ?_
    refine lv_topi (fun t25 et25 => ?_)
    have b26 : kb 12 t25 372 := kb_eq et25 (kb_add b17 kc_12 (by decide) (by decide))
    have qt25 : t25.toInt = t16.toInt + 12 := by rw [et25]; exact kt_addc b17 kc_12 (by decide) (by decide)
    refine lv_aload_n hx hb dX2_restoreLatest_83 rfl (lv_at hl 2 rfl) ?_
    refine va_get (D := D) (ci := 7) (v := .ref (r 9)) (C := RX7) (T := TX7) (N := 20) hx hb hg inC7 hown hK hP 1 rfl rfl 9 (by decide) (hg _ wt1_118) (fun _ h9 => h9) rfl dX2_restoreLatest_84 ?_
    refine lv_iconst (v := 0) hx hb dX2_restoreLatest_87 (by decide) ?_
    refine lv_bipush (v := 6) hx hb dX2_restoreLatest_88 (by decide) ?_
    refine va_copyi (ty := .int) hx hb (hml.trans hl.1.symm) hown (hg _ wt4_88) (hg _ wt4_70) (hg _ wt4_69) (hg _ wt1_20) hK hP hD hS 23 9 0 0 rfl rfl rfl rfl rfl (kb_nl b26 (by decide)) (by decide) (by decide) (by rw [cl_6]; exact kb_cpl b26 (by decide) (by decide)) (by decide +kernel) (fun i _ => rfl) (by decide) (Nat.le_of_ble_eq_true rfl) dX2_restoreLatest_90 (fun H locs hP hD hS => ?_)
    have hP : va_P D vwCl (xX K r f_15 (va_up a_24 9 (va_cpy (a_24 23) (a_24 9) t25.toNatClampNeg (0 : Int32).toNatClampNeg (6 : Int32).toNatClampNeg)) g tx) H := hP
    have hD : va_D A (xX K r f_15 (va_up a_24 9 (va_cpy (a_24 23) (a_24 9) t25.toNatClampNeg (0 : Int32).toNatClampNeg (6 : Int32).toNatClampNeg)) g tx) := hD
    refine k_gen (P := fun z => va_P D vwCl (xX K r f_15 z g tx) H ∧ va_D A (xX K r f_15 z g tx) ∧ (xI f_15 z) ∧ (gOK K g.2 tt) ∧ (xEk ([704, 705], [6, 9, 10, 11], []) f a g f_15 z g)) (va_up a_24 9 (va_cpy (a_24 23) (a_24 9) t25.toNatClampNeg (0 : Int32).toNatClampNeg (6 : Int32).toNatClampNeg)) ⟨hP, hD, (xI_a hI (by decide)), hG, (xEk_a hE rfl)⟩ (fun a_27 ea_27 hq => ?_)
    obtain ⟨hP, hD, hI, hG, hE⟩ := hq
    refine lv_aload_n hx hb dX2_restoreLatest_93 rfl (lv_at hl 1 rfl) ?_
    refine va_get (D := D) (ci := 2) (v := .ref (r 23)) (C := RX2) (T := TX2) (N := 3) hx hb hg inC2 hown hK hP 22 rfl rfl 2 (by decide) (hg _ wt1_208) (fun _ h9 => h9) rfl dX2_restoreLatest_94 ?_
    refine lv_iload_n hx hb dX2_restoreLatest_97 rfl (lv_at hl 0 rfl) ?_
    refine lv_bipush (v := 18) hx hb dX2_restoreLatest_98 (by decide) ?_
    refine lv_iadd hx hb dX2_restoreLatest_100 ?_
    refine lv_topi (fun t28 et28 => ?_)
    have b29 : kb 18 t28 378 := kb_eq et28 (kb_add b17 kc_18 (by decide) (by decide))
    have qt28 : t28.toInt = t16.toInt + 18 := by rw [et28]; exact kt_addc b17 kc_18 (by decide) (by decide)
    refine lv_aload_n hx hb dX2_restoreLatest_101 rfl (lv_at hl 2 rfl) ?_
    refine va_get (D := D) (ci := 7) (v := .ref (r 10)) (C := RX7) (T := TX7) (N := 20) hx hb hg inC7 hown hK hP 1 rfl rfl 10 (by decide) (hg _ wt1_124) (fun _ h9 => h9) rfl dX2_restoreLatest_102 ?_
    refine lv_iconst (v := 0) hx hb dX2_restoreLatest_105 (by decide) ?_
    refine lv_bipush (v := 6) hx hb dX2_restoreLatest_106 (by decide) ?_
    refine va_copyi (ty := .int) hx hb (hml.trans hl.1.symm) hown (hg _ wt4_88) (hg _ wt4_70) (hg _ wt4_69) (hg _ wt1_20) hK hP hD hS 23 10 0 0 rfl rfl rfl rfl rfl (kb_nl b29 (by decide)) (by decide) (by decide) (by rw [cl_6]; exact kb_cpl b29 (by decide) (by decide)) (by decide +kernel) (fun i _ => rfl) (by decide) (Nat.le_of_ble_eq_true rfl) dX2_restoreLatest_108 (fun H locs hP hD hS => ?_)
    have hP : va_P D vwCl (xX K r f_15 (va_up a_27 10 (va_cpy (a_27 23) (a_27 10) t28.toNatClampNeg (0 : Int32).toNatClampNeg (6 : Int32).toNatClampNeg)) g tx) H := hP
    have hD : va_D A (xX K r f_15 (va_up a_27 10 (va_cpy (a_27 23) (a_27 10) t28.toNatClampNeg (0 : Int32).toNatClampNeg (6 : Int32).toNatClampNeg)) g tx) := hD
    refine k_gen (P := fun z => va_P D vwCl (xX K r f_15 z g tx) H ∧ va_D A (xX K r f_15 z g tx) ∧ (xI f_15 z) ∧ (gOK K g.2 tt) ∧ (xEk ([704, 705], [6, 9, 10, 11], []) f a g f_15 z g)) (va_up a_27 10 (va_cpy (a_27 23) (a_27 10) t28.toNatClampNeg (0 : Int32).toNatClampNeg (6 : Int32).toNatClampNeg)) ⟨hP, hD, (xI_a hI (by decide)), hG, (xEk_a hE rfl)⟩ (fun a_30 ea_30 hq => ?_)
    obtain ⟨hP, hD, hI, hG, hE⟩ := hq
    refine lv_aload_n hx hb dX2_restoreLatest_111 rfl (lv_at hl 1 rfl) ?_
    refine va_get (D := D) (ci := 2) (v := .ref (r 23)) (C := RX2) (T := TX2) (N := 3) hx hb hg inC2 hown hK hP 22 rfl rfl 2 (by decide) (hg _ wt1_208) (fun _ h9 => h9) rfl dX2_restoreLatest_112 ?_
    refine lv_iload_n hx hb dX2_restoreLatest_115 rfl (lv_at hl 0 rfl) ?_
    refine va_iald hx hb hK hP 23 0 rfl rfl (kb_in b17 (by decide) (by decide)) dX2_restoreLatest_116 ?_
    refine lv_topi (fun t31 et31 => ?_)
    exact kI_ret (v := t31) hx hb hr hlocks rfl hK hS dX2_restoreLatest_117 (f_15, a_30, g) hP hD ⟨(kb_any t31), hI, hG, hE, (by unfold udF; rw [if_neg hP0]; exact xDd_e rfl (congrArg Int32.toInt ((et31.trans ((congrFun (show a_30 23 = a_27 23 from by rw [← ea_30]; rfl) (t16.toNatClampNeg)).trans ((congrFun (show a_27 23 = a_24 23 from by rw [← ea_27]; rfl) (t16.toNatClampNeg)).trans ((congrFun (show a_24 23 = a_21 23 from by rw [← ea_24]; rfl) (t16.toNatClampNeg)).trans (congrFun (show a_21 23 = a 23 from by rw [← ea_21]; rfl) (t16.toNatClampNeg)))))).trans ((congrArg (a 23) (show t16.toNatClampNeg = 24 * t13.toInt.toNat from by have w1 := qt16; have w3 := (b14).1; unfold Int32.toNatClampNeg; omega)).trans hun.2.1))) (show sV 32 2 f_15 a_30 _ from sV_mk hVw (hE.1 32 rfl) (hE.1 38 rfl) (hE.1 44 rfl) (hE.1 49 rfl) (hE.1 50 rfl) (fun i hi => by unfold rbF; rw [if_neg (by omega)]) (fun j hj n4 n7 n8 n9 => by rcases (show j = 0 ∨ j = 1 ∨ j = 2 ∨ j = 3 ∨ j = 5 ∨ j = 6 ∨ j = 10 ∨ j = 11 ∨ j = 12 by omega) with e | e | e | e | e | e | e | e | e <;> (subst e; exact hE.2.1 _ rfl)) (fun i hi => by show _ = rbF k _ (0 + i); unfold rbF; rw [if_pos (by omega)]; exact (congrFun ((show a_30 6 = a_27 6 from by rw [← ea_30]; rfl).trans (show a_27 6 = a_24 6 from by rw [← ea_27]; rfl)) i).trans ((cp_0 (sp := 24 * t13.toInt.toNat + 2) (dp := 0) (n := 10) (show a_24 6 = _ from by rw [← ea_24]; rfl) (show t22.toNatClampNeg = _ from by have w1 := qt16; have w2 := qt22; have w3 := (b23).1; unfold Int32.toNatClampNeg; omega) (by decide +kernel) (by decide +kernel) i hi).trans ((congrFun ((show a_21 23 = a 23 from by rw [← ea_21]; rfl)) _).trans (by rw [Nat.add_assoc]; exact hun.2.2.2.1 i hi)))) (fun i hi => by show _ = rbF k _ (10 + i); unfold rbF; rw [if_pos (by omega)]; exact (congrFun (show a_30 9 = a_27 9 from by rw [← ea_30]; rfl) i).trans ((cp_0 (sp := 24 * t13.toInt.toNat + 12) (dp := 0) (n := 6) (show a_27 9 = _ from by rw [← ea_27]; rfl) (show t25.toNatClampNeg = _ from by have w1 := qt16; have w2 := qt25; have w3 := (b26).1; unfold Int32.toNatClampNeg; omega) (by decide +kernel) (by decide +kernel) i hi).trans ((congrFun (((show a_24 23 = a_21 23 from by rw [← ea_24]; rfl).trans (show a_21 23 = a 23 from by rw [← ea_21]; rfl))) _).trans (by rw [Nat.add_assoc]; exact hun.2.2.2.2.1 i hi)))) (fun i hi h2 => by show _ = rbF k _ (16 + i); unfold rbF; rw [if_pos (by omega)]; exact (congrFun rfl i).trans ((cp_0 (sp := 24 * t13.toInt.toNat + 18) (dp := 0) (n := 6) (show a_30 10 = _ from by rw [← ea_30]; rfl) (show t28.toNatClampNeg = _ from by have w1 := qt16; have w2 := qt28; have w3 := (b29).1; unfold Int32.toNatClampNeg; omega) (by decide +kernel) (by decide +kernel) i hi).trans ((congrFun (((show a_27 23 = a_24 23 from by rw [← ea_27]; rfl).trans ((show a_24 23 = a_21 23 from by rw [← ea_24]; rfl).trans (show a_21 23 = a 23 from by rw [← ea_21]; rfl)))) _).trans (by rw [Nat.add_assoc]; exact hun.2.2.2.2.2 i hi (by have w9 := (kBn_b hkk).2; omega))))) (by rw [show a_30 11 = _ from ((show a_30 11 = a_27 11 from by rw [← ea_30]; rfl).trans ((show a_27 11 = a_24 11 from by rw [← ea_27]; rfl).trans ((show a_24 11 = a_21 11 from by rw [← ea_24]; rfl).trans (show a_21 11 = upd (a 11) 0 t20 from by rw [← ea_21]; rfl)))), pk_us]; show t20 = rbF k _ 22; unfold rbF; rw [if_pos (by decide)]; exact et20.trans ((congrArg (a 23) (show t18.toNatClampNeg = 24 * t13.toInt.toNat + 1 from by have w1 := qt16; have w2 := qt18; have w3 := (b14).1; unfold Int32.toNatClampNeg; omega)).trans hun.2.2.1)) (fun i hi => by rw [show a_30 11 = _ from ((show a_30 11 = a_27 11 from by rw [← ea_30]; rfl).trans ((show a_27 11 = a_24 11 from by rw [← ea_27]; rfl).trans ((show a_24 11 = a_21 11 from by rw [← ea_24]; rfl).trans (show a_21 11 = upd (a 11) 0 t20 from by rw [← ea_21]; rfl)))), pk_un (show i ≠ 0 by omega)])) (xP_cg hun.1 ((show f_15 704 = f_8 704 from by rw [← ef_15]; rfl).trans (show f_8 704 = t6 from by rw [← ef_8]; rfl)) (show f_15 705 = t13 from by rw [← ef_15]; rfl) (hE.2.1 23 rfl)))⟩
  · have h32 := (kc_nlt c3)
    have b33 : kb 0 ckp 0 := kr_le1 h32 b2 kc_0
    refine lv_bipush (v := (-3)) hx hb dX2_restoreLatest_7 (by decide) ?_
    exact kI_ret (v := (-3)) hx hb hr hlocks rfl hK hS dX2_restoreLatest_9 (f, a, g) hP hD ⟨(kb_w kc_m3 (by decide) (by decide)), hI, hG, hE, (by have hz : P.1 = 0 := (by have w1 := hp0.1; rw [← eckp] at w1; have w2 := (b33).2; omega); unfold udF; rw [if_pos hz]; exact xDd_e rfl (by decide +kernel) hVw hp0)⟩
