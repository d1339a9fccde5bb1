/-- the class's site with its fields from o and its rows from q is k -/
def sV (o q : Nat) (f : Nat → Int32) (a : Nat → Nat → Int32) (k : Nat → Int32) : Prop :=
  (f o = k 102 ∧ f (o + 6) = k 103 ∧ f (o + 12) = k 104 ∧ f (o + 17) = k 105 ∧ f (o + 18) = k 106) ∧
  (∀ i, i < 10 → a q i = k (23 + i) ∧ a (q + 1) i = k (33 + i) ∧ a (q + 2) i = k (43 + i) ∧ a (q + 3) i = k (53 + i) ∧ a (q + 4) i = k (0 + i)) ∧
  (∀ i, i < 6 → a (q + 5) i = k (63 + i) ∧ a (q + 6) i = k (69 + i) ∧ a (q + 7) i = k (10 + i) ∧ ((i : Int) < (k 103).toInt → a (q + 8) i = k (16 + i))) ∧
  (a (q + 9) 0 = k 22 ∧ a (q + 9) 1 = k 99 ∧ a (q + 9) 2 = k 100 ∧ a (q + 9) 3 = k 101) ∧
  (∀ i, i < 8 → a (q + 10) i = k (75 + 3 * i) ∧ a (q + 11) i = k (76 + 3 * i) ∧ a (q + 12) i = k (77 + 3 * i))
section SV
variable {o q : Nat} {f f' : Nat → Int32} {a a' : Nat → Nat → Int32} {k : Nat → Int32} {i : Nat}
theorem sv_parts (h : sV o q f a k) : f o = k 102 := h.1.1
theorem sv_builders (h : sV o q f a k) : f (o + 6) = k 103 := h.1.2.1
theorem sv_sights (h : sV o q f a k) : f (o + 12) = k 104 := h.1.2.2.1
theorem sv_lawCount (h : sV o q f a k) : f (o + 17) = k 105 := h.1.2.2.2.1
theorem sv_inForce (h : sV o q f a k) : f (o + 18) = k 106 := h.1.2.2.2.2
theorem sv_work (h : sV o q f a k) (hi : i < 10) : a q i = k (23 + i) := (h.2.1 i hi).1
theorem sv_needs (h : sV o q f a k) (hi : i < 10) : a (q + 1) i = k (33 + i) := (h.2.1 i hi).2.1
theorem sv_craft (h : sV o q f a k) (hi : i < 10) : a (q + 2) i = k (43 + i) := (h.2.1 i hi).2.2.1
theorem sv_heavy (h : sV o q f a k) (hi : i < 10) : a (q + 3) i = k (53 + i) := (h.2.1 i hi).2.2.2.1
theorem sv_left (h : sV o q f a k) (hi : i < 10) : a (q + 4) i = k (0 + i) := (h.2.1 i hi).2.2.2.2
theorem sv_crafts (h : sV o q f a k) (hi : i < 6) : a (q + 5) i = k (63 + i) := (h.2.2.1 i hi).1
theorem sv_pace (h : sV o q f a k) (hi : i < 6) : a (q + 6) i = k (69 + i) := (h.2.2.1 i hi).2.1
theorem sv_tired (h : sV o q f a k) (hi : i < 6) : a (q + 7) i = k (10 + i) := (h.2.2.1 i hi).2.2.1
theorem sv_place (h : sV o q f a k) (hi : i < 6) (hb : (i : Int) < (k 103).toInt) : a (q + 8) i = k (16 + i) := (h.2.2.1 i hi).2.2.2 hb
theorem sv_hour (h : sV o q f a k) : a (q + 9) 0 = k 22 := h.2.2.2.1.1
theorem sv_night (h : sV o q f a k) : a (q + 9) 1 = k 99 := h.2.2.2.1.2.1
theorem sv_rain (h : sV o q f a k) : a (q + 9) 2 = k 100 := h.2.2.2.1.2.2.1
theorem sv_mood (h : sV o q f a k) : a (q + 9) 3 = k 101 := h.2.2.2.1.2.2.2
theorem sv_sTick (h : sV o q f a k) (hi : i < 8) : a (q + 10) i = k (75 + 3 * i) := (h.2.2.2.2 i hi).1
theorem sv_sPart (h : sV o q f a k) (hi : i < 8) : a (q + 11) i = k (76 + 3 * i) := (h.2.2.2.2 i hi).2.1
theorem sv_sStood (h : sV o q f a k) (hi : i < 8) : a (q + 12) i = k (77 + 3 * i) := (h.2.2.2.2 i hi).2.2
/-- the same fields and rows: the same state -/
theorem sV_cg (h : sV o q f a k) (e1 : f' o = f o) (e2 : f' (o + 6) = f (o + 6)) (e3 : f' (o + 12) = f (o + 12)) (e4 : f' (o + 17) = f (o + 17)) (e5 : f' (o + 18) = f (o + 18)) (e : ∀ j, j < 13 → a' (q + j) = a (q + j)) : sV o q f' a' k := by
  have r0 := e 0 (by decide)
  have r1 := e 1 (by decide)
  have r2 := e 2 (by decide)
  have r3 := e 3 (by decide)
  have r4 := e 4 (by decide)
  have r5 := e 5 (by decide)
  have r6 := e 6 (by decide)
  have r7 := e 7 (by decide)
  have r8 := e 8 (by decide)
  have r9 := e 9 (by decide)
  have r10 := e 10 (by decide)
  have r11 := e 11 (by decide)
  have r12 := e 12 (by decide)
  have r0 : a' q = a q := r0
  unfold sV
  rw [e1, e2, e3, e4, e5, r0, r1, r2, r3, r4, r5, r6, r7, r8, r9, r10, r11, r12]
  exact h
end SV
section SV2
variable {o q : Nat} {f f' : Nat → Int32} {a a' : Nat → Nat → Int32} {k k' : Nat → Int32} {i s : Nat}
theorem sV_a {u : Nat → Int32} (h : sV o q f a k) (n : s < q ∨ q + 13 ≤ s) : sV o q f (va_up a s u) k := sV_cg h rfl rfl rfl rfl rfl (fun j hj => by unfold va_up; rw [if_neg (by omega)])
theorem sV_f {v : Int32} (h : sV o q f a k) (n0 : o ≠ s) (n1 : o + 6 ≠ s) (n2 : o + 12 ≠ s) (n3 : o + 17 ≠ s) (n4 : o + 18 ≠ s) : sV o q (upd f s v) a k := sV_cg h (pk_un n0) (pk_un n1) (pk_un n2) (pk_un n3) (pk_un n4) (fun _ _ => rfl)
theorem al_c {L : List Nat} {b : Nat} {J : List Nat} (h : J.all (fun d => !(L.contains (b + d))) = true) {d : Nat} (hd : d ∈ J) : L.contains (b + d) = false := by
  have w := List.all_eq_true.mp h d hd
  simpa using w
theorem sV_E {L : xL} {g g' : xG} (h : sV o q f a k) (E : xEk L f a g f' a' g') (c1 : [0, 6, 12, 17, 18].all (fun d => !(L.1.contains (o + d))) = true) (c2 : (List.range 13).all (fun j => !(L.2.1.contains (q + j))) = true) : sV o q f' a' k :=
  sV_cg h (E.1 _ (al_c c1 (d := 0) (by decide))) (E.1 _ (al_c c1 (d := 6) (by decide))) (E.1 _ (al_c c1 (d := 12) (by decide))) (E.1 _ (al_c c1 (d := 17) (by decide))) (E.1 _ (al_c c1 (d := 18) (by decide))) (fun j hj => E.2.1 _ (al_c c2 (d := j) (List.mem_range.mpr hj)))
/-- what moves: what is left, how tired, where, the hour -/
theorem sV_mk (h : sV o q f a k) (f1 : f' o = f o) (f2 : f' (o + 6) = f (o + 6)) (f3 : f' (o + 12) = f (o + 12)) (f4 : f' (o + 17) = f (o + 17)) (f5 : f' (o + 18) = f (o + 18)) (hk : ∀ i, 23 ≤ i → k' i = k i) (hr : ∀ j, j < 13 → ¬ j = 4 → ¬ j = 7 → ¬ j = 8 → ¬ j = 9 → a' (q + j) = a (q + j)) (hl : ∀ i, i < 10 → a' (q + 4) i = k' (0 + i)) (ht : ∀ i, i < 6 → a' (q + 7) i = k' (10 + i)) (hp : ∀ i : Nat, i < 6 → (i : Int) < (k 103).toInt → a' (q + 8) i = k' (16 + i)) (hh : a' (q + 9) 0 = k' 22) (hn : ∀ i, 0 < i → a' (q + 9) i = a (q + 9) i) : sV o q f' a' k' := by
  obtain ⟨⟨g1, g2, g3, g4, g5⟩, hA, hB, ⟨t0, t1, t2, t3⟩, hC⟩ := h
  have r0 := hr 0 (by decide) (by decide) (by decide) (by decide) (by decide)
  have r1 := hr 1 (by decide) (by decide) (by decide) (by decide) (by decide)
  have r2 := hr 2 (by decide) (by decide) (by decide) (by decide) (by decide)
  have r3 := hr 3 (by decide) (by decide) (by decide) (by decide) (by decide)
  have r5 := hr 5 (by decide) (by decide) (by decide) (by decide) (by decide)
  have r6 := hr 6 (by decide) (by decide) (by decide) (by decide) (by decide)
  have r10 := hr 10 (by decide) (by decide) (by decide) (by decide) (by decide)
  have r11 := hr 11 (by decide) (by decide) (by decide) (by decide) (by decide)
  have r12 := hr 12 (by decide) (by decide) (by decide) (by decide) (by decide)
  have r0 : a' q = a q := r0
  refine ⟨⟨by rw [f1, hk 102 (by decide)]; exact g1, by rw [f2, hk 103 (by decide)]; exact g2, by rw [f3, hk 104 (by decide)]; exact g3, by rw [f4, hk 105 (by decide)]; exact g4, by rw [f5, hk 106 (by decide)]; exact g5⟩, fun j hj => ?_, fun j hj => ?_, ⟨hh, by rw [hn 1 (by decide), hk 99 (by decide)]; exact t1, by rw [hn 2 (by decide), hk 100 (by decide)]; exact t2, by rw [hn 3 (by decide), hk 101 (by decide)]; exact t3⟩, fun j hj => ?_⟩
  · have w := hA j hj
    rw [r0, r1, r2, r3, hk (23 + j) (by omega), hk (33 + j) (by omega), hk (43 + j) (by omega), hk (53 + j) (by omega)]
    exact ⟨w.1, w.2.1, w.2.2.1, w.2.2.2.1, hl j hj⟩
  · have w := hB j hj
    rw [r5, r6, hk (63 + j) (by omega), hk (69 + j) (by omega)]
    exact ⟨w.1, w.2.1, ht j hj, fun z => hp j hj (by rw [hk 103 (by decide)] at z; exact z)⟩
  · have w := hC j hj
    rw [r10, r11, r12, hk (75 + 3 * j) (by omega), hk (76 + 3 * j) (by omega), hk (77 + 3 * j) (by omega)]
    exact w
end SV2
/-! a tick, by rows -/
section TC
variable {DD : Nat → tE} {k K K' RT RT' RL RL' : Nat → Int32} {mm mm' ix pp : Nat} {v v1 v2 x y p : Int32}
theorem tk1_cn (hp : k (16 + mm) = -1) (hx : x = tk1 DD k mm (10 + mm)) (hb : kb 0 x 99) (hv : v.toInt = max 0 (x.toInt - 2)) : upd (tk1 DD k mm) (10 + mm) v = tk1 DD k (mm + 1) := by
  have b1 := hb.1
  have b2 := hb.2
  show _ = if k (16 + mm) = -1 then _ else _
  rw [if_pos hp]
  have ev : v = nI ((tk1 DD k mm (10 + mm)).toInt - 2).toNat := nI_q (by rw [← hx]; omega)
  rw [ev]
theorem tk1_cy {w d : Int} (hp : ¬ k (16 + mm) = -1) (hpp : p = k (16 + mm)) (hy : y = tk1 DD k mm (0 + p.toNatClampNeg)) (hw : w = tkW DD k 0 mm) (hv1 : v1.toInt = max 0 (y.toInt - w)) (hx : x = tk1 DD k mm (10 + mm)) (hb : kb 0 x 99) (hd : d = tkW DD k 1 mm) (h0 : 0 ≤ d) (hv2 : v2.toInt = min 99 (x.toInt + d)) : upd (upd (tk1 DD k mm) (0 + p.toNatClampNeg) v1) (10 + mm) v2 = tk1 DD k (mm + 1) := by
  have b1 := hb.1
  have b2 := hb.2
  show _ = if k (16 + mm) = -1 then _ else _
  rw [if_neg hp, ← hpp]
  have ev1 : v1 = nI ((tk1 DD k mm (0 + p.toNatClampNeg)).toInt - tkW DD k 0 mm).toNat := nI_q (by rw [← hy, ← hw]; omega)
  have ev2 : v2 = nI (min 99 ((tk1 DD k mm (10 + mm)).toInt + tkW DD k 1 mm)).toNat := nI_q (by rw [← hx, ← hd]; omega)
  rw [ev1, ev2]
theorem tc_T (hT : ∀ i, i < 6 → RT i = K (10 + i)) (e : RT' = upd RT ix v) (hi : ix = mm) (hK : upd K (10 + mm) v = K') : ∀ i, i < 6 → RT' i = K' (10 + i) := by
  intro i h
  rw [e, ← hK, hi]
  by_cases c : i = mm
  · rw [c, pk_us, pk_us]
  · rw [pk_un c, pk_un (by omega)]; exact hT i h
theorem tc_L0 (hL : ∀ i, i < 10 → RL i = K (0 + i)) (hK : upd K (10 + mm) v = K') : ∀ i, i < 10 → RL i = K' (0 + i) := by
  intro i h
  rw [← hK, pk_un (by omega)]; exact hL i h
theorem tc_T1 (hT : ∀ i, i < 6 → RT i = K (10 + i)) (e : RT' = upd RT ix v2) (hi : ix = mm) (hp : pp < 10) (hK : upd (upd K (0 + pp) v1) (10 + mm) v2 = K') : ∀ i, i < 6 → RT' i = K' (10 + i) := by
  intro i h
  rw [e, ← hK, hi]
  by_cases c : i = mm
  · rw [c, pk_us, pk_us]
  · rw [pk_un c, pk_un (by omega), pk_un (by omega)]; exact hT i h
theorem tc_L (hL : ∀ i, i < 10 → RL i = K (0 + i)) (e : RL' = upd RL pp v1) (hK : upd (upd K (0 + pp) v1) (10 + mm) v2 = K') : ∀ i, i < 10 → RL' i = K' (0 + i) := by
  intro i h
  rw [e, ← hK, pk_un (show 0 + i ≠ 10 + mm by omega)]
  by_cases c : i = pp
  · rw [c, pk_us, pk_us]
  · rw [pk_un c, pk_un (show 0 + i ≠ 0 + pp by omega)]; exact hL i h
/-- places -/
theorem tp_y (hT : ∀ i, i < 6 → i < mm' → RT i = K (16 + i)) (e : RT' = upd RT ix (-1)) (hi : ix = mm) (hK : upd K (16 + mm) (-1) = K') : ∀ i, i < 6 → i < mm' → RT' i = K' (16 + i) := by
  intro i h h2
  rw [e, ← hK, hi]
  by_cases c : i = mm
  · rw [c, pk_us, pk_us]
  · rw [pk_un c, pk_un (by omega)]; exact hT i h h2
end TC
theorem mx_v (x y : Int32) : (if x < y then y else x).toInt = max x.toInt y.toInt := by
  by_cases h : x < y
  · rw [if_pos h]; rw [Int32.lt_iff_toInt_lt] at h; omega
  · rw [if_neg h]; rw [Int32.lt_iff_toInt_lt] at h; omega
theorem mn_v (x y : Int32) : (if y < x then y else x).toInt = min x.toInt y.toInt := by
  by_cases h : y < x
  · rw [if_pos h]; rw [Int32.lt_iff_toInt_lt] at h; omega
  · rw [if_neg h]; rw [Int32.lt_iff_toInt_lt] at h; omega
/-! laws -/
def txC (t : tX) (D : tE) : Prop := (t.2.1 0).toInt = (D.1 : Int) ∧ D.1 ≤ 12 ∧ ∀ c, c < D.1 → clC false D c t.2.2.2 (t.2.2.1 1) (t.2.2.1 2) (t.2.2.1 3) (t.2.2.1 4)
/-- the laws that are told, as the class keeps them -/
def lC (K : Nat → ClassId) (tt : va_W) (g2 : Nat → Option Nat) (k : Nat → Int32) (DD : Nat → tE) : Prop := ∀ i : Nat, (i : Int) < (k 105).toInt → ∃ t : tX, tIn K tt t ∧ g2 i = some (t.1 0) ∧ txC t (DD i)
theorem lC_cg {K : Nat → ClassId} {tt : va_W} {g2 g2' : Nat → Option Nat} {k : Nat → Int32} {DD : Nat → tE} (h : lC K tt g2 k DD) (e : g2' = g2) : lC K tt g2' k DD := by rw [e]; exact h
theorem mt_hi : ∀ n < 4, (mt0 n).toInt = kHi n := by decide +kernel
theorem cl_p {kd mi v : Int32} {m told a b : Int64} (hkd : kb 0 kd 3) (em : mi = mt0 kd.toNatClampNeg) (el : m = mi.toInt64) (ea : a = (if told < m then told else m)) (eb : b = (if a < 0 then 0 else a)) (ev : v = b.toInt32) : v.toInt = max 0 (min (kHi kd.toInt.toNat) told.toInt) := by
  have b1 := hkd.1
  have b2 := hkd.2
  have e0 : kd.toNatClampNeg = kd.toInt.toNat := by unfold Int32.toNatClampNeg; omega
  have hm : m.toInt = kHi kd.toInt.toNat := by rw [el, kt_i2l, em, e0]; exact mt_hi _ (by omega)
  have hh : 0 ≤ kHi kd.toInt.toNat ∧ kHi kd.toInt.toNat ≤ 20 := by
    have : ∀ n < 4, 0 ≤ kHi n ∧ kHi n ≤ 20 := by decide
    exact this _ (by omega)
  have z0 : (0 : Int64).toInt = 0 := by decide +kernel
  have ha : a.toInt = min (kHi kd.toInt.toNat) told.toInt := by
    rw [ea, ← hm]
    by_cases q : told < m
    · rw [if_pos q]; rw [Int64.lt_iff_toInt_lt] at q; omega
    · rw [if_neg q]; rw [Int64.lt_iff_toInt_lt] at q; omega
  have hb : b.toInt = max 0 a.toInt := by
    rw [eb]
    by_cases q : a < 0
    · rw [if_pos q]; rw [Int64.lt_iff_toInt_lt] at q; omega
    · rw [if_neg q]; rw [Int64.lt_iff_toInt_lt] at q; omega
  rw [ev, Int64.toInt_toInt32, Int.bmod_eq_of_le] <;> omega
set_option maxHeartbeats 4000000 in
set_option maxRecDepth 100000 in
theorem z_reckonN  (l : Launch) {D : va_G} {K : Nat → ClassId} (r : Nat → Nat) (f : Nat → Int32) (a : Nat → Nat → Int32) (g : xG) (tx tt : va_W) (hT : ∀ c ∈ tt, c ∈ tx) (hI : xI f a) (hG : gOK K g.2 tt) (cl : Int32) (pc_ : Int32) (bcl : kb 0 cl 11) (bpc_ : kb 0 pc_ 2) (t : tX) (ht : tIn K tt t) (v_ : eV) (Ws : Nat → Int) (m0 m1 : Nat) (hp0 : (t.2.2.1 3 (3 * cl.toInt.toNat + pc_.toInt.toNat)).toInt = (m0 : Int)) (hp1 : (t.2.2.1 3 (3 * cl.toInt.toNat + pc_.toInt.toNat + 1)).toInt = (m1 : Int)) (hp2 : m0 ≤ m1 ∧ m1 ≤ t.2.2.2) (hp3 : pcP (t.2.2.1 4) 10 m0 m1 v_) (hp4 : ∀ j, j < 10 → (g.1 17 j).toInt = Ws j) (hp5 : wB Ws) : kLG l yX10_reckon (Cond.code yX10_reckon cX10_reckon 13 (some .long) :: kG) (rmD 2 0 0) D K [.ref (t.1 0), .int cl, .int pc_, .ref (r 17), .ref (r 18)] (xX K r f a g tx) (fun v (u : xS) => kbl (-9223372036854775808) v 9223372036854775807 ∧ xI u.1 u.2.1 ∧ gOK K u.2.2.2 tt ∧ xEk ([], [], []) f a g u.1 u.2.1 u.2.2 ∧ v.toInt = enc (v_ Ws) ∧ (∀ z, v_ Ws = some z → oBd z) ∧ (∀ j, j < 10 → (u.2.2.1 17 j).toInt = Ws j)) (fun u => xX K r u.1 u.2.1 u.2.2 tx) 0 0 := by
  refine kLG.of (cc := cX10_reckon) (maxL := 13) (ret := (some .long)) (by decide) rfl (Nat.le_of_ble_eq_true rfl) ?_
  intro p e s m below meth c A hx hb hr hml hown hts hlocks hnm hK hP hD hS hA hV ls hl
  have hE : xEk ([], [], []) f a g f a g := xEk_rf
  have hg : ∀ w ∈ kG, w.before _ s = true := fun w h => hts w (List.mem_cons_of_mem _ h)
  have hown : s.vm.findClass RX10 = some m.cls := hown
  have hl : lv_has ls 13 [(0, .ref (t.1 0)), (1, .int cl), (2, .int pc_), (3, .ref (r 17)), (4, .ref (r 18))] := hl
  obtain ⟨jt_0, hjt_0⟩ := tIn_at (tIn_w hT ht) (k := 0) rfl
  obtain ⟨jt_1, hjt_1⟩ := tIn_at (tIn_w hT ht) (k := 1) rfl
  obtain ⟨jt_2, hjt_2⟩ := tIn_at (tIn_w hT ht) (k := 2) rfl
  obtain ⟨jt_3, hjt_3⟩ := tIn_at (tIn_w hT ht) (k := 3) rfl
  obtain ⟨jt_4, hjt_4⟩ := tIn_at (tIn_w hT ht) (k := 4) rfl
  have hnt : (nI t.2.2.2).toInt = (t.2.2.2 : Int) := kn_to (by have w1 := ht.1; omega)
  have hm400 : m1 ≤ 400 := by have w1 := ht.1; have w2 := hp2.2; omega
  refine lv_iload_n hx hb dX10_reckon_0 rfl (lv_at hl 1 rfl) ?_
  refine lv_iconst (v := 3) hx hb dX10_reckon_1 (by decide) ?_
  refine lv_imul hx hb dX10_reckon_2 ?_
  refine lv_topi (fun t1 et1 => ?_)
  have b2 : kb 0 t1 33 := kb_eq et1 (kb_mul bcl kc_3 (by decide) (by decide) (by decide))
  have qt1 : t1.toInt = cl.toInt * 3 := by rw [et1]; exact kt_mulc bcl kc_3 (by decide) (by decide) (by decide)
  refine lv_iload_n hx hb dX10_reckon_3 rfl (lv_at hl 2 rfl) ?_
  refine lv_iadd hx hb dX10_reckon_4 ?_
  refine lv_topi (fun t3 et3 => ?_)
  have b4 : kb 0 t3 35 := kb_eq et3 (kb_add b2 bpc_ (by decide) (by decide))
  have qt3 : t3.toInt = t1.toInt + pc_.toInt := by rw [et3]; exact kt_add b2 bpc_ (by decide) (by decide)
  refine lv_istore (lv' := [(5, .int t3), (0, .ref (t.1 0)), (1, .int cl), (2, .int pc_), (3, .ref (r 17)), (4, .ref (r 18))]) hx hb dX10_reckon_5 hl (by decide) rfl (fun ls hl => ?_)
  refine lv_iload hx hb dX10_reckon_7 (lv_at hl 0 rfl) ?_
  refine lv_if_lt (tgt := 51) hx hb dX10_reckon_9 (by decide) (fun c5 => ?_) (fun c5 => ?_)
  · have h6 := (kc_lt c5)
    exact kb_no (kr_lt1 h6 b4 kc_0 (H := (-1)) (by decide)) (by decide)
  · have h7 := (kc_nlt c5)
    refine lv_iload hx hb dX10_reckon_12 (lv_at hl 0 rfl) ?_
    refine lv_iconst (v := 1) hx hb dX10_reckon_14 (by decide) ?_
    refine lv_iadd hx hb dX10_reckon_15 ?_
    refine lv_topi (fun t8 et8 => ?_)
    have b9 : kb 1 t8 36 := kb_eq et8 (kb_add b4 kc_1 (by decide) (by decide))
    have qt8 : t8.toInt = t3.toInt + 1 := by rw [et8]; exact kt_addc b4 kc_1 (by decide) (by decide)
    refine lv_aload_n hx hb dX10_reckon_16 rfl (lv_at hl 1 rfl) ?_
    refine va_get (D := D) (ci := 10) (v := .ref (t.1 3)) (C := RX10) (T := TX10) (N := 6) hx hb hg inC10 hown hK hP (jt_0 + 95) hjt_0 rfl 3 (by decide) (hg _ wt2_48) (fun _ h9 => h9) rfl dX10_reckon_17 ?_
    refine va_alen (v := 37) hx hb hK hP (jt_3 + 95) 0 hjt_3 rfl rfl dX10_reckon_20 ?_
    refine lv_icmp_ge (tgt := 51) hx hb dX10_reckon_21 (by decide) (fun c10 => ?_) (fun c10 => ?_)
    · have h11 := (kc_le c10)
      exact kb_no (kr_le1 h11 kc_37 b9) (by decide)
    · have h12 := (kc_nle c10)
      refine lv_aload_n hx hb dX10_reckon_24 rfl (lv_at hl 1 rfl) ?_
      refine va_get (D := D) (ci := 10) (v := .ref (t.1 3)) (C := RX10) (T := TX10) (N := 6) hx hb hg inC10 hown hK hP (jt_0 + 95) hjt_0 rfl 3 (by decide) (hg _ wt2_48) (fun _ h9 => h9) rfl dX10_reckon_25 ?_
      refine lv_iload hx hb dX10_reckon_28 (lv_at hl 0 rfl) ?_
      refine va_iald hx hb hK hP (jt_3 + 95) 0 hjt_3 rfl (kb_in b4 (by decide) (by decide)) dX10_reckon_30 ?_
      refine lv_topi (fun t13 et13 => ?_)
      have hmk : t3.toNatClampNeg = 3 * cl.toInt.toNat + pc_.toInt.toNat := by have w1 := qt3; have w2 := qt1; have w3 := bcl.1; have w4 := bpc_.1; unfold Int32.toNatClampNeg; omega
      have hm0 : t13.toInt = (m0 : Int) := by rw [et13, hmk]; exact hp0
      have hm12 := hp2
      have b14 : kb 0 t13 400 := ⟨by omega, by have w1 := ht.1; omega⟩
      refine lv_if_lt (tgt := 51) hx hb dX10_reckon_31 (by decide) (fun c15 => ?_) (fun c15 => ?_)
      · have h16 := (kc_lt c15)
        exact kb_no (kr_lt1 h16 b14 kc_0 (H := (-1)) (by decide)) (by decide)
      · have h17 := (kc_nlt c15)
        refine lv_aload_n hx hb dX10_reckon_34 rfl (lv_at hl 1 rfl) ?_
        refine va_get (D := D) (ci := 10) (v := .ref (t.1 3)) (C := RX10) (T := TX10) (N := 6) hx hb hg inC10 hown hK hP (jt_0 + 95) hjt_0 rfl 3 (by decide) (hg _ wt2_48) (fun _ h9 => h9) rfl dX10_reckon_35 ?_
        refine lv_iload hx hb dX10_reckon_38 (lv_at hl 0 rfl) ?_
        refine lv_iconst (v := 1) hx hb dX10_reckon_40 (by decide) ?_
        refine lv_iadd hx hb dX10_reckon_41 ?_
        refine k_top (z := t8) et8.symm ?_
        refine va_iald hx hb hK hP (jt_3 + 95) 0 hjt_3 rfl (kb_in b9 (by decide) (by decide)) dX10_reckon_42 ?_
        refine lv_topi (fun t18 et18 => ?_)
        have hmk1 : t8.toNatClampNeg = 3 * cl.toInt.toNat + pc_.toInt.toNat + 1 := by have w0 := qt8; have w1 := qt3; have w2 := qt1; have w3 := bcl.1; have w4 := bpc_.1; unfold Int32.toNatClampNeg; omega
        have hm1 : t18.toInt = (m1 : Int) := by rw [et18, hmk1]; exact hp1
        have b19 : kb 0 t18 400 := ⟨by omega, by have w1 := ht.1; omega⟩
        refine lv_aload_n hx hb dX10_reckon_43 rfl (lv_at hl 1 rfl) ?_
        refine va_get (D := D) (ci := 10) (v := .ref (t.1 4)) (C := RX10) (T := TX10) (N := 6) hx hb hg inC10 hown hK hP (jt_0 + 95) hjt_0 rfl 4 (by decide) (hg _ wt2_49) (fun _ h9 => h9) rfl dX10_reckon_44 ?_
        refine va_alen (v := nI t.2.2.2) hx hb hK hP (jt_4 + 95) 0 hjt_4 rfl rfl dX10_reckon_47 ?_
        have b20 : kb 0 (nI t.2.2.2) 400 := kb_nI ht.1 (by decide)
        refine lv_icmp_le (tgt := 55) hx hb dX10_reckon_48 (by decide) (fun c21 => ?_) (fun c21 => ?_)
        · have h22 := (kc_le c21)
          refine lv_aload_n hx hb dX10_reckon_55 rfl (lv_at hl 1 rfl) ?_
          refine va_get (D := D) (ci := 10) (v := .ref (t.1 3)) (C := RX10) (T := TX10) (N := 6) hx hb hg inC10 hown hK hP (jt_0 + 95) hjt_0 rfl 3 (by decide) (hg _ wt2_48) (fun _ h9 => h9) rfl dX10_reckon_56 ?_
          refine lv_iload hx hb dX10_reckon_59 (lv_at hl 0 rfl) ?_
          refine lv_iconst (v := 1) hx hb dX10_reckon_61 (by decide) ?_
          refine lv_iadd hx hb dX10_reckon_62 ?_
          refine k_top (z := t8) et8.symm ?_
          refine va_iald hx hb hK hP (jt_3 + 95) 0 hjt_3 rfl (kb_in b9 (by decide) (by decide)) dX10_reckon_63 ?_
          refine k_top (z := t18) et18.symm ?_
          refine lv_istore (lv' := [(6, .int t18), (5, .int t3), (0, .ref (t.1 0)), (1, .int cl), (2, .int pc_), (3, .ref (r 17)), (4, .ref (r 18))]) hx hb dX10_reckon_64 hl (by decide) rfl (fun ls hl => ?_)
          refine lv_aload_n hx hb dX10_reckon_66 rfl (lv_at hl 2 rfl) ?_
          refine va_get (D := D) (ci := 10) (v := .ref (t.1 3)) (C := RX10) (T := TX10) (N := 6) hx hb hg inC10 hown hK hP (jt_0 + 95) hjt_0 rfl 3 (by decide) (hg _ wt2_48) (fun _ h9 => h9) rfl dX10_reckon_67 ?_
          refine lv_iload hx hb dX10_reckon_70 (lv_at hl 1 rfl) ?_
          refine va_iald hx hb hK hP (jt_3 + 95) 0 hjt_3 rfl (kb_in b4 (by decide) (by decide)) dX10_reckon_72 ?_
          refine k_top (z := t13) et13.symm ?_
          refine lv_iload hx hb dX10_reckon_73 (lv_at hl 0 rfl) ?_
          refine lv_icmp_lt (tgt := 80) hx hb dX10_reckon_75 (by decide) (fun c23 => ?_) (fun c23 => ?_)
          · have h24 := (kc_lt c23)
            have b25 : kb 0 t13 399 := kr_lt1 h24 b14 b19 (by decide)
            have b26 : kb 1 t18 400 := kr_lt2 h24 b14 b19 (by decide)
            refine lv_iconst (v := 0) hx hb dX10_reckon_80 (by decide) ?_
            refine lv_istore (lv' := [(7, .int 0), (6, .int t18), (5, .int t3), (0, .ref (t.1 0)), (1, .int cl), (2, .int pc_), (3, .ref (r 17)), (4, .ref (r 18))]) hx hb dX10_reckon_81 hl (by decide) rfl (fun ls hl => ?_)
            refine lv_aload_n hx hb dX10_reckon_83 rfl (lv_at hl 3 rfl) ?_
            refine va_get (D := D) (ci := 10) (v := .ref (t.1 3)) (C := RX10) (T := TX10) (N := 6) hx hb hg inC10 hown hK hP (jt_0 + 95) hjt_0 rfl 3 (by decide) (hg _ wt2_48) (fun _ h9 => h9) rfl dX10_reckon_84 ?_
            refine lv_iload hx hb dX10_reckon_87 (lv_at hl 2 rfl) ?_
            refine va_iald hx hb hK hP (jt_3 + 95) 0 hjt_3 rfl (kb_in b4 (by decide) (by decide)) dX10_reckon_89 ?_
            refine k_top (z := t13) et13.symm ?_
            refine lv_istore (lv' := [(8, .int t13), (7, .int 0), (6, .int t18), (5, .int t3), (0, .ref (t.1 0)), (1, .int cl), (2, .int pc_), (3, .ref (r 17)), (4, .ref (r 18))]) hx hb dX10_reckon_90 hl (by decide) rfl (fun ls hl => ?_)
            obtain ⟨f0, hf0⟩ := pc_run hp3 (by have w1 := kc_lt c23; omega) Ws
            have lp30 : ∀ (n31 : Nat) (p_ : Nat) (S : List Int) (G29 : xG) (H : Heap) (locs : List Loc) (ls : Array Slot) (y27 : Int32) (y28 : Int32), (rk (t.2.2.1 4) Ws 10 m1 n31 p_ S = some (v_ Ws)) → (xI f a) → (gOK K G29.2 tt) → (xEk ([], [], []) f a g f a G29) → (kb 0 y27 4096) → (kb 0 y28 32) → (y28.toInt = (S.length : Int)) → (y27.toInt = (p_ : Int) ∧ p_ ≤ 4096) → (stOk (G29.1 18) S) → (sB p_ S) → (∀ j, j < 10 → (G29.1 17 j).toInt = Ws j) → va_P D vwCl (xX K r f a G29 tx) H → va_D A (xX K r f a G29 tx) → va_S A s.heap H locs → lv_has ls 13 [(8, .int y27), (7, .int y28), (6, .int t18), (5, .int t3), (0, .ref (t.1 0)), (1, .int cl), (2, .int pc_), (3, .ref (r 17)), (4, .ref (r 18))] → W p l e (rmD 2 0 0) s m ([.ref (t.1 0), .int cl, .int pc_, .ref (r 17), .ref (r 18)] : List Value).toArray below meth c H locs 0 0 (kQl D (tysK K) (fun v (u : xS) => kbl (-9223372036854775808) v 9223372036854775807 ∧ xI u.1 u.2.1 ∧ gOK K u.2.2.2 tt ∧ xEk ([], [], []) f a g u.1 u.2.1 u.2.2 ∧ v.toInt = enc (v_ Ws) ∧ (∀ z, v_ Ws = some z → oBd z) ∧ (∀ j, j < 10 → (u.2.2.1 17 j).toInt = Ws j)) (fun u => xX K r u.1 u.2.1 u.2.2 tx) A below ([.ref (t.1 0), .int cl, .int pc_, .ref (r 17), .ref (r 18)] : List Value).toArray s 0 0) (F0 m 92 ls []) := by
              intro n31
              induction n31 with
              | zero =>
                intro p_ S G29  H locs ls y27 y28 hmlp30 hI hG hE b32 b33 hvlp30_0 hvlp30_1 hvlp30_2 hvlp30_3 hvlp30_4 hP hD hS hl
                exact (show False from by have h2 : (none : Option (Option Int)) = some (v_ Ws) := hmlp30; cases h2).elim
              | succ n31 ihlp30 =>
                intro p_ S G29  H locs ls y27 y28 hmlp30 hI hG hE b32 b33 hvlp30_0 hvlp30_1 hvlp30_2 hvlp30_3 hvlp30_4 hP hD hS hl
                have htop := hvlp30_0
                have hspt := hvlp30_1.1
                have hp4k := hvlp30_1.2
                have hst := hvlp30_2
                have hsb := hvlp30_3
                have hwd := hvlp30_4
                have hM : rkF (t.2.2.1 4) Ws 10 m1 (rk (t.2.2.1 4) Ws 10 m1 n31) p_ S = some (v_ Ws) := hmlp30
                refine lv_iload hx hb dX10_reckon_92 (lv_at hl 0 rfl) ?_
                refine lv_iload hx hb dX10_reckon_94 (lv_at hl 2 rfl) ?_
                refine lv_icmp_ge (tgt := 342) hx hb dX10_reckon_96 (by decide) (fun c34 => ?_) (fun c34 => ?_)
                · have h35 := (kc_le c34)
                  have b36 : kb 1 y27 4096 := kr_le2 h35 b26 b32
                  obtain ⟨xr, hSr, hvr⟩ := ro_end (by have w1 := kc_le c34; omega) hM
                  subst hSr
                  have htr : y28.toInt = 1 := htop
                  have b37 : kb 1 y28 1 := ⟨by omega, by omega⟩
                  refine lv_iload hx hb dX10_reckon_342 (lv_at hl 1 rfl) ?_
                  refine lv_iconst (v := 1) hx hb dX10_reckon_344 (by decide) ?_
                  refine lv_icmp_ne (tgt := 355) hx hb dX10_reckon_345 (by decide) (fun c38 => ?_) (fun c38 => ?_)
                  · exact kb_nsame c38 b37 kc_1
                  · refine lv_aload hx hb dX10_reckon_348 (lv_at hl 8 rfl) ?_
                    refine lv_iconst (v := 0) hx hb dX10_reckon_350 (by decide) ?_
                    refine va_lald hx hb hK hP 18 3 rfl rfl (kb_in kc_0 (by decide) (by decide)) dX10_reckon_351 ?_
                    refine lv_topl (fun t39 et39 => ?_)
                    refine lv_goto (tgt := 358) hx hb dX10_reckon_352 (by decide) ?_
                    exact kL_ret (v := t39) hx hb hr hlocks hK hS dX10_reckon_358 (f, a, G29) hP hD ⟨(kbl_any t39), hI, hG, hE, (by rw [hvr, et39]; exact hst.1), (fun z hz => by rw [hvr] at hz; rw [← Option.some.inj hz]; exact oBp_o (hsb xr List.mem_cons_self) (by omega)), hwd⟩
                · have h40 := (kc_nle c34)
                  have b41 : kb 0 y27 399 := kr_lt1 h40 b32 b26 (by decide)
                  have hlt : p_ < m1 := by have w1 := kc_nle c34; omega
                  have b42 : kb 0 y27 399 := ⟨by omega, by have w1 := ht.1; omega⟩
                  refine lv_aload_n hx hb dX10_reckon_99 rfl (lv_at hl 4 rfl) ?_
                  refine va_get (D := D) (ci := 10) (v := .ref (t.1 4)) (C := RX10) (T := TX10) (N := 6) hx hb hg inC10 hown hK hP (jt_0 + 95) hjt_0 rfl 4 (by decide) (hg _ wt2_49) (fun _ h9 => h9) rfl dX10_reckon_100 ?_
                  refine lv_iload hx hb dX10_reckon_103 (lv_at hl 0 rfl) ?_
                  refine va_iald hx hb hK hP (jt_4 + 95) 0 hjt_4 rfl (kb_inn (by have w1 := (b42).1; omega) (by omega)) dX10_reckon_105 ?_
                  refine lv_topi (fun t43 et43 => ?_)
                  have b44 : kb 0 t43 65535 := kb_eq et43 (ht.2.2.2 _)
                  refine lv_bipush (v := 12) hx hb dX10_reckon_106 (by decide) ?_
                  refine lv_ishr hx hb dX10_reckon_108 ?_
                  refine lv_topi (fun t45 et45 => ?_)
                  have b46 : kb 0 t45 15 := kb_eq et45 (kb_shr12 b44 (by decide))
                  have qt45 : t45.toInt = t43.toInt / 4096 := by rw [et45]; exact kt_shr12 _
                  refine lv_istore (lv' := [(9, .int t45), (8, .int y27), (7, .int y28), (6, .int t18), (5, .int t3), (0, .ref (t.1 0)), (1, .int cl), (2, .int pc_), (3, .ref (r 17)), (4, .ref (r 18))]) hx hb dX10_reckon_109 hl (by decide) rfl (fun ls hl => ?_)
                  refine lv_aload_n hx hb dX10_reckon_111 rfl (lv_at hl 5 rfl) ?_
                  refine va_get (D := D) (ci := 10) (v := .ref (t.1 4)) (C := RX10) (T := TX10) (N := 6) hx hb hg inC10 hown hK hP (jt_0 + 95) hjt_0 rfl 4 (by decide) (hg _ wt2_49) (fun _ h9 => h9) rfl dX10_reckon_112 ?_
                  refine lv_iload hx hb dX10_reckon_115 (lv_at hl 1 rfl) ?_
                  refine va_iald hx hb hK hP (jt_4 + 95) 0 hjt_4 rfl (kb_inn (by have w1 := (b42).1; omega) (by omega)) dX10_reckon_117 ?_
                  refine k_top (z := t43) et43.symm ?_
                  refine lv_sipush (v := 4095) hx hb dX10_reckon_118 (by decide) ?_
                  refine lv_iand hx hb dX10_reckon_121 ?_
                  refine lv_topi (fun t47 et47 => ?_)
                  have b48 : kb 0 t47 4095 := kb_eq et47 (kb_and 12 (by decide) (by decide))
                  have qt47 : t47.toInt = t43.toInt % 4096 := by rw [et47]; exact kt_and12 b44 (by decide)
                  refine lv_istore (lv' := [(10, .int t47), (9, .int t45), (8, .int y27), (7, .int y28), (6, .int t18), (5, .int t3), (0, .ref (t.1 0)), (1, .int cl), (2, .int pc_), (3, .ref (r 17)), (4, .ref (r 18))]) hx hb dX10_reckon_122 hl (by decide) rfl (fun ls hl => ?_)
                  have hcl8 : y27.toNatClampNeg = p_ := cl_nat hspt
                  have hcv : t43 = t.2.2.1 4 p_ := et43.trans (congrArg (t.2.2.1 4) hcl8)
                  have hop : t45.toInt = (t.2.2.1 4 p_).toInt / 4096 := by rw [qt45, hcv]
                  have har : t47.toInt = (t.2.2.1 4 p_).toInt % 4096 := by rw [qt47, hcv]
                  refine lv_iload hx hb dX10_reckon_124 (lv_at hl 1 rfl) ?_
                  refine lv_iconst (v := 1) hx hb dX10_reckon_126 (by decide) ?_
                  refine lv_icmp_gt (tgt := 181) hx hb dX10_reckon_127 (by decide) (fun c49 => ?_) (fun c49 => ?_)
                  · have h50 := (kc_lt c49)
                    have b51 : kb 2 t45 15 := kr_lt2 h50 kc_1 b46 (by decide)
                    obtain ⟨x0, S1, hS1⟩ := ro_top hlt (by have w1 := (b51).1; omega) hM
                    subst hS1
                    have htop1 : y28.toInt = (S1.length : Int) + 1 := htop
                    have hx0 := (sB_c hsb).1
                    have hox := oBp_o hx0 (by omega)
                    have b52 : kb 1 y28 32 := ⟨by omega, (b33).2⟩
                    refine lv_iload hx hb dX10_reckon_181 (lv_at hl 3 rfl) ?_
                    refine lv_iconst (v := 1) hx hb dX10_reckon_183 (by decide) ?_
                    refine lv_icmp_ge (tgt := 191) hx hb dX10_reckon_184 (by decide) (fun c53 => ?_) (fun c53 => ?_)
                    · have h54 := (kc_le c53)
                      refine lv_iload hx hb dX10_reckon_191 (lv_at hl 1 rfl) ?_
                      refine lv_iconst (v := 2) hx hb dX10_reckon_193 (by decide) ?_
                      refine lv_icmp_ne (tgt := 216) hx hb dX10_reckon_194 (by decide) (fun c55 => ?_) (fun c55 => ?_)
                      · have b56 : kb 3 t45 15 := kr_nel c55 b51 kc_2 (by decide)
                        refine lv_iload hx hb dX10_reckon_216 (lv_at hl 1 rfl) ?_
                        refine lv_iconst (v := 4) hx hb dX10_reckon_218 (by decide) ?_
                        refine lv_icmp_gt (tgt := 280) hx hb dX10_reckon_219 (by decide) (fun c57 => ?_) (fun c57 => ?_)
                        · have h58 := (kc_lt c57)
                          have b59 : kb 5 t45 15 := kr_lt2 h58 kc_4 b56 (by decide)
                          obtain ⟨hj12, y0, S2, hS2⟩ := ro_two hlt (by have w1 := (b59).1; omega) hM
                          subst hS2
                          have htop2 : y28.toInt = (S2.length : Int) + 2 := by have w1 : y28.toInt = ((S2.length + 1 + 1 : Nat) : Int) := htop; omega
                          have hy0 := (sB_c (sB_c hsb).2).1
                          have hoy := oBp_o hy0 (by omega)
                          have b60 : kb 2 y28 32 := ⟨by omega, (b52).2⟩
                          refine lv_iload hx hb dX10_reckon_280 (lv_at hl 3 rfl) ?_
                          refine lv_iconst (v := 2) hx hb dX10_reckon_282 (by decide) ?_
                          refine lv_icmp_ge (tgt := 290) hx hb dX10_reckon_283 (by decide) (fun c61 => ?_) (fun c61 => ?_)
                          · have h62 := (kc_le c61)
                            refine lv_iload hx hb dX10_reckon_290 (lv_at hl 1 rfl) ?_
                            refine lv_aload hx hb dX10_reckon_292 (lv_at hl 10 rfl) ?_
                            refine lv_iload hx hb dX10_reckon_294 (lv_at hl 3 rfl) ?_
                            refine lv_iconst (v := 2) hx hb dX10_reckon_296 (by decide) ?_
                            refine lv_isub hx hb dX10_reckon_297 ?_
                            refine lv_topi (fun t63 et63 => ?_)
                            have b64 : kb 0 t63 30 := kb_eq et63 (kb_sub b60 kc_2 (by decide) (by decide))
                            have qt63 : t63.toInt = y28.toInt - 2 := by rw [et63]; exact kt_subc b60 kc_2 (by decide) (by decide)
                            refine va_lald hx hb hK hP 18 3 rfl rfl (kb_in b64 (by decide) (by decide)) dX10_reckon_298 ?_
                            refine lv_topl (fun t65 et65 => ?_)
                            have hyv : t65.toInt = y0 := by rw [et65, show t63.toNatClampNeg = S2.length from (by have w1 := qt63; unfold Int32.toNatClampNeg; omega)]; exact hst.2.1
                            refine lv_aload hx hb dX10_reckon_299 (lv_at hl 10 rfl) ?_
                            refine lv_iload hx hb dX10_reckon_301 (lv_at hl 3 rfl) ?_
                            refine lv_iconst (v := 1) hx hb dX10_reckon_303 (by decide) ?_
                            refine lv_isub hx hb dX10_reckon_304 ?_
                            refine lv_topi (fun t66 et66 => ?_)
                            have b67 : kb 1 t66 31 := kb_eq et66 (kb_sub b60 kc_1 (by decide) (by decide))
                            have qt66 : t66.toInt = y28.toInt - 1 := by rw [et66]; exact kt_subc b60 kc_1 (by decide) (by decide)
                            refine va_lald hx hb hK hP 18 3 rfl rfl (kb_in b67 (by decide) (by decide)) dX10_reckon_305 ?_
                            refine lv_topl (fun t68 et68 => ?_)
                            have hxv : t68.toInt = x0 := by rw [et68, show t66.toNatClampNeg = S2.length + 1 from (by have w1 := qt66; unfold Int32.toNatClampNeg; omega)]; exact hst.1
                            refine kNL.callS (As := [.int t45, .long t65, .long t68]) (rest := []) ⟨hx, hb, hml, hown, hg⟩ (x_10_joined l t45 t65 t68 ) (va_cwS 3 hg (kgS wt3_101 wt3_102 wt1_8 wt3_103) rfl rfl rfl (by decide +kernel) ⟨by decide, by decide⟩) hP hS rfl hl.1 rfl (Nat.le_of_ble_eq_true rfl) dX10_reckon_306 ⟨Nat.le_refl _, Nat.le_refl _⟩ (fun v70 H locs hw69 hP hS => ?_)
                            have hP : va_P D vwCl (xX K r f a G29 tx) H := hP
                            have hjo : v70.toInt = enc (jnV ((t.2.2.1 4 p_).toInt / 4096).toNat y0 x0) := by have w1 := hw69.2 (by have w2 := (b59).1; omega) (by omega) (by rw [hyv]; exact hoy) (by rw [hxv]; exact hox); rw [hyv, hxv, hop] at w1; exact w1
                            obtain ⟨nn, hnn⟩ : ∃ nn : Nat, (t.2.2.1 4 p_).toInt / 4096 = (nn : Int) := ⟨((t.2.2.1 4 p_).toInt / 4096).toNat, by have w1 := (b59).1; omega⟩
                            have hR0 := (rf_jn hlt hnn (by have w2 := (b59).1; omega) (by omega)).symm.trans hM
                            rw [show ((t.2.2.1 4 p_).toInt / 4096).toNat = nn by omega] at hjo
                            refine lv_lstore (lv' := [(11, .long v70), (10, .int t47), (9, .int t45), (8, .int y27), (7, .int y28), (6, .int t18), (5, .int t3), (0, .ref (t.1 0)), (1, .int cl), (2, .int pc_), (3, .ref (r 17)), (4, .ref (r 18))]) hx hb dX10_reckon_309 hl (by decide) rfl (fun ls hl => ?_)
                            refine lv_lload hx hb dX10_reckon_311 (lv_at hl 0 rfl) ?_
                            refine lv_ldc2 (v := (-1000000000000)) hx hb hown (hg _ wt3_100) dX10_reckon_313 ?_
                            refine W.lcmp hx hb dX10_reckon_316 ?_
                            refine lv_topi (fun t71 et71 => ?_)
                            refine lv_if_ne (tgt := 324) hx hb dX10_reckon_317 (by decide) (fun c72 => ?_) (fun c72 => ?_)
                            · have h73 := klc_ne (et71 ▸ c72)
                              have hjn := enc_i hjo.symm (fun q => h73 (Int64.toInt_inj.mp (q.trans (by decide +kernel))))
                              rw [hjn] at hR0
                              have hR : rk (t.2.2.1 4) Ws 10 m1 n31 (p_ + 1) (v70.toInt :: S2) = some (v_ Ws) := hR0
                              obtain ⟨t74, et74⟩ : ∃ z : Int32, z = y28 + Int32.ofInt (-1) := ⟨_, rfl⟩
                              have qt74 : t74.toInt = y28.toInt - 1 := by rw [et74]; exact km_dec b60 (by decide)
                              have b75 : kb 1 t74 31 := kb_inc (k := (-1)) qt74 b60
                              refine lv_iinc (v := t74) (lv' := [(7, .int t74), (11, .long v70), (10, .int t47), (9, .int t45), (8, .int y27), (6, .int t18), (5, .int t3), (0, .ref (t.1 0)), (1, .int cl), (2, .int pc_), (3, .ref (r 17)), (4, .ref (r 18))]) hx hb dX10_reckon_324 hl (k := 4) rfl et74.symm (by decide) rfl (fun ls hl => ?_)
                              refine lv_aload hx hb dX10_reckon_327 (lv_at hl 11 rfl) ?_
                              refine lv_iload hx hb dX10_reckon_329 (lv_at hl 0 rfl) ?_
                              refine lv_iconst (v := 1) hx hb dX10_reckon_331 (by decide) ?_
                              refine lv_isub hx hb dX10_reckon_332 ?_
                              refine lv_topi (fun t76 et76 => ?_)
                              have b77 : kb 0 t76 30 := kb_eq et76 (kb_sub b75 kc_1 (by decide) (by decide))
                              have qt76 : t76.toInt = t74.toInt - 1 := by rw [et76]; exact kt_subc b75 kc_1 (by decide) (by decide)
                              refine lv_lload hx hb dX10_reckon_333 (lv_at hl 1 rfl) ?_
                              refine va_last hx hb hK hP hD hS 18 3 rfl rfl (kb_in b77 (by decide) (by decide)) dX10_reckon_335 (fun H locs hP hD hS => ?_)
                              have hP : va_P D vwCl (xX K r f a (va_up G29.1 18 (va_up (G29.1 18) t76.toNatClampNeg v70), G29.2) tx) H := hP
                              have hD : va_D A (xX K r f a (va_up G29.1 18 (va_up (G29.1 18) t76.toNatClampNeg v70), G29.2) tx) := hD
                              refine k_gen (P := fun z => va_P D vwCl (xX K r f a z tx) H ∧ va_D A (xX K r f a z tx) ∧ (xI f a) ∧ (gOK K z.2 tt) ∧ (xEk ([], [], []) f a g f a z)) ((va_up G29.1 18 (va_up (G29.1 18) t76.toNatClampNeg v70), G29.2)) ⟨hP, hD, hI, hG, (xEk_g hE)⟩ (fun g_78 eg_78 hq => ?_)
                              obtain ⟨hP, hD, hI, hG, hE⟩ := hq
                              obtain ⟨t79, et79⟩ : ∃ z : Int32, z = y27 + Int32.ofInt 1 := ⟨_, rfl⟩
                              have qt79 : t79.toInt = y27.toInt + 1 := by rw [et79]; exact km_inc b42 (by decide) (by decide)
                              have b80 : kb 1 t79 400 := kb_inc (k := 1) qt79 b42
                              refine lv_iinc (v := t79) (lv' := [(8, .int t79), (7, .int t74), (11, .long v70), (10, .int t47), (9, .int t45), (6, .int t18), (5, .int t3), (0, .ref (t.1 0)), (1, .int cl), (2, .int pc_), (3, .ref (r 17)), (4, .ref (r 18))]) hx hb dX10_reckon_336 hl (k := 4) rfl et79.symm (by decide) rfl (fun ls hl => ?_)
                              refine lv_goto (tgt := 92) hx hb dX10_reckon_339 (by decide) ?_
                              exact ihlp30 (p_ + 1) (v70.toInt :: S2) g_78 _ _ _ t79 t74 (hR) hI hG hE (kb_w b80 (by decide) (by decide)) (kb_w b75 (by decide) (by decide)) (by have w1 := qt74; show _ = ((S2.length + 1 : Nat) : Int); omega) (⟨by have w1 := qt79; omega, by omega⟩) (by rw [← eg_78]; exact st_pu (by have w1 := qt76; have w2 := qt74; unfold Int32.toNatClampNeg; omega) rfl hst.2.2) (sB_i (oBp_w (jnV_o hjn) (by omega)) (sB_w (sB_c (sB_c hsb).2).2 (by omega))) (fun j hj => by rw [← eg_78]; exact hwd j hj) hP hD hS (lv_sub hl [0, 1, 5, 6, 7, 8, 9, 10, 11] rfl)
                            · have h81 := klc_eq (et71 ▸ c72)
                              have hjn := enc_nn (hjo.symm.trans (by rw [h81]; decide +kernel)) (fun x h => oBp_o (jnV_o h) (by decide))
                              rw [hjn] at hR0
                              refine lv_ldc2 (v := (-1000000000000)) hx hb hown (hg _ wt3_100) dX10_reckon_320 ?_
                              exact kL_ret (v := (-1000000000000)) hx hb hr hlocks hK hS dX10_reckon_323 (f, a, G29) hP hD ⟨(kbl_w kcl_m1000000000000 (by decide) (by decide)), hI, hG, hE, (by rw [(Option.some.inj hR0).symm]; decide +kernel), (fun z hz => by rw [(Option.some.inj hR0).symm] at hz; cases hz), hwd⟩
                          · have h82 := (kc_nle c61)
                            exact kb_no (kr_lt1 h82 b60 kc_2 (H := 1) (by decide)) (by decide)
                        · have h83 := (kc_nlt c57)
                          have b84 : kb 3 t45 4 := kr_le1 h83 b56 kc_4
                          rcases (show t45.toInt = 3 ∨ t45.toInt = 4 by have w1 := (b84).1; have w2 := (b84).2; omega) with ho | ho
                          · have b85 : kb 3 t45 3 := ⟨by omega, by omega⟩
                            refine lv_aload hx hb dX10_reckon_222 (lv_at hl 10 rfl) ?_
                            refine lv_iload hx hb dX10_reckon_224 (lv_at hl 3 rfl) ?_
                            refine lv_iconst (v := 1) hx hb dX10_reckon_226 (by decide) ?_
                            refine lv_isub hx hb dX10_reckon_227 ?_
                            refine lv_topi (fun t86 et86 => ?_)
                            have b87 : kb 0 t86 31 := kb_eq et86 (kb_sub b52 kc_1 (by decide) (by decide))
                            have qt86 : t86.toInt = y28.toInt - 1 := by rw [et86]; exact kt_subc b52 kc_1 (by decide) (by decide)
                            refine va_lald hx hb hK hP 18 3 rfl rfl (kb_in b87 (by decide) (by decide)) dX10_reckon_228 ?_
                            refine lv_topl (fun t88 et88 => ?_)
                            have hv89 : t88.toInt = x0 := by rw [et88, show t86.toNatClampNeg = S1.length from (by have w1 := qt86; unfold Int32.toNatClampNeg; omega)]; exact hst.1
                            refine lv_lconst (v := 0) hx hb dX10_reckon_229 (by decide) ?_
                            refine W.lcmp hx hb dX10_reckon_230 ?_
                            refine lv_topi (fun t90 et90 => ?_)
                            refine lv_if_eq (tgt := 238) hx hb dX10_reckon_231 (by decide) (fun c91 => ?_) (fun c91 => ?_)
                            · have h92 := klc_eq (et90 ▸ c91)
                              refine lv_iconst (v := 0) hx hb dX10_reckon_238 (by decide) ?_
                              refine lv_iload hx hb dX10_reckon_239 (lv_at hl 1 rfl) ?_
                              refine lv_iconst (v := 3) hx hb dX10_reckon_241 (by decide) ?_
                              refine lv_icmp_ne (tgt := 249) hx hb dX10_reckon_242 (by decide) (fun c93 => ?_) (fun c93 => ?_)
                              · exact kb_nsame c93 b85 kc_3
                              · refine lv_iconst (v := 1) hx hb dX10_reckon_245 (by decide) ?_
                                refine lv_goto (tgt := 250) hx hb dX10_reckon_246 (by decide) ?_
                                refine lv_icmp_ne (tgt := 274) hx hb dX10_reckon_250 (by decide) (fun c94 => ?_) (fun c94 => ?_)
                                · have hR := (rf_so hlt (by omega)).symm.trans hM
                                  rw [if_pos (by have w1 := congrArg Int64.toInt h92; have k0 : (0 : Int64).toInt = 0 := (by decide +kernel); rw [hv89, k0] at w1; exact w1)] at hR
                                  obtain ⟨t95, et95⟩ : ∃ z : Int32, z = y28 + Int32.ofInt (-1) := ⟨_, rfl⟩
                                  have qt95 : t95.toInt = y28.toInt - 1 := by rw [et95]; exact km_dec b52 (by decide)
                                  have b96 : kb 0 t95 31 := kb_inc (k := (-1)) qt95 b52
                                  refine lv_iinc (v := t95) (lv' := [(7, .int t95), (10, .int t47), (9, .int t45), (8, .int y27), (6, .int t18), (5, .int t3), (0, .ref (t.1 0)), (1, .int cl), (2, .int pc_), (3, .ref (r 17)), (4, .ref (r 18))]) hx hb dX10_reckon_274 hl (k := 3) rfl et95.symm (by decide) rfl (fun ls hl => ?_)
                                  refine lv_goto (tgt := 336) hx hb dX10_reckon_277 (by decide) ?_
                                  obtain ⟨t97, et97⟩ : ∃ z : Int32, z = y27 + Int32.ofInt 1 := ⟨_, rfl⟩
                                  have qt97 : t97.toInt = y27.toInt + 1 := by rw [et97]; exact km_inc b42 (by decide) (by decide)
                                  have b98 : kb 1 t97 400 := kb_inc (k := 1) qt97 b42
                                  refine lv_iinc (v := t97) (lv' := [(8, .int t97), (7, .int t95), (10, .int t47), (9, .int t45), (6, .int t18), (5, .int t3), (0, .ref (t.1 0)), (1, .int cl), (2, .int pc_), (3, .ref (r 17)), (4, .ref (r 18))]) hx hb dX10_reckon_336 hl (k := 3) rfl et97.symm (by decide) rfl (fun ls hl => ?_)
                                  refine lv_goto (tgt := 92) hx hb dX10_reckon_339 (by decide) ?_
                                  exact ihlp30 (p_ + 1) (S1) G29 _ _ _ t97 t95 (hR) hI hG hE (kb_w b98 (by decide) (by decide)) (kb_w b96 (by decide) (by decide)) (by have w1 := qt95; omega) (⟨by have w1 := qt97; omega, by omega⟩) (hst.2) (sB_w (sB_c hsb).2 (by omega)) (hwd) hP hD hS (lv_sub hl [0, 1, 4, 5, 6, 7, 8, 9, 10] rfl)
                                · exact kb_dj c94 kc_0 kc_1 (by decide)
                            · have h99 := klc_ne (et90 ▸ c91)
                              refine lv_iconst (v := 1) hx hb dX10_reckon_234 (by decide) ?_
                              refine lv_goto (tgt := 239) hx hb dX10_reckon_235 (by decide) ?_
                              refine lv_iload hx hb dX10_reckon_239 (lv_at hl 1 rfl) ?_
                              refine lv_iconst (v := 3) hx hb dX10_reckon_241 (by decide) ?_
                              refine lv_icmp_ne (tgt := 249) hx hb dX10_reckon_242 (by decide) (fun c100 => ?_) (fun c100 => ?_)
                              · exact kb_nsame c100 b85 kc_3
                              · refine lv_iconst (v := 1) hx hb dX10_reckon_245 (by decide) ?_
                                refine lv_goto (tgt := 250) hx hb dX10_reckon_246 (by decide) ?_
                                refine lv_icmp_ne (tgt := 274) hx hb dX10_reckon_250 (by decide) (fun c101 => ?_) (fun c101 => ?_)
                                · exact kb_nsame c101 kc_1 kc_1
                                · have hR0 := (rf_so hlt (by omega)).symm.trans hM
                                  rw [if_neg (fun q => h99 (Int64.toInt_inj.mp (by have k0 : (0 : Int64).toInt = 0 := (by decide +kernel); rw [hv89, k0]; exact q)))] at hR0
                                  obtain ⟨hja, hR⟩ := ite_some hR0
                                  have b102 : kb 1 t47 4095 := ⟨by omega, (b48).2⟩
                                  refine lv_iload hx hb dX10_reckon_253 (lv_at hl 0 rfl) ?_
                                  refine lv_iload hx hb dX10_reckon_255 (lv_at hl 2 rfl) ?_
                                  refine lv_icmp_le (tgt := 267) hx hb dX10_reckon_257 (by decide) (fun c103 => ?_) (fun c103 => ?_)
                                  · exact (by have w1 := kc_le c103; omega : False).elim
                                  · have h104 := (kc_nle c103)
                                    refine lv_iload hx hb dX10_reckon_260 (lv_at hl 0 rfl) ?_
                                    refine lv_iconst (v := 1) hx hb dX10_reckon_262 (by decide) ?_
                                    refine lv_isub hx hb dX10_reckon_263 ?_
                                    refine lv_topi (fun t105 et105 => ?_)
                                    have b106 : kb 0 t105 4094 := kb_eq et105 (kb_sub b102 kc_1 (by decide) (by decide))
                                    have qt105 : t105.toInt = t47.toInt - 1 := by rw [et105]; exact kt_subc b102 kc_1 (by decide) (by decide)
                                    refine lv_goto (tgt := 269) hx hb dX10_reckon_264 (by decide) ?_
                                    refine lv_istore (lv' := [(8, .int t105), (10, .int t47), (9, .int t45), (7, .int y28), (6, .int t18), (5, .int t3), (0, .ref (t.1 0)), (1, .int cl), (2, .int pc_), (3, .ref (r 17)), (4, .ref (r 18))]) hx hb dX10_reckon_269 hl (by decide) rfl (fun ls hl => ?_)
                                    refine lv_goto (tgt := 336) hx hb dX10_reckon_271 (by decide) ?_
                                    obtain ⟨t107, et107⟩ : ∃ z : Int32, z = t105 + Int32.ofInt 1 := ⟨_, rfl⟩
                                    have qt107 : t107.toInt = t105.toInt + 1 := by rw [et107]; exact km_inc b106 (by decide) (by decide)
                                    have b108 : kb 1 t107 4095 := kb_inc (k := 1) qt107 b106
                                    refine lv_iinc (v := t107) (lv' := [(8, .int t107), (10, .int t47), (9, .int t45), (7, .int y28), (6, .int t18), (5, .int t3), (0, .ref (t.1 0)), (1, .int cl), (2, .int pc_), (3, .ref (r 17)), (4, .ref (r 18))]) hx hb dX10_reckon_336 hl (k := 0) rfl et107.symm (by decide) rfl (fun ls hl => ?_)
                                    refine lv_goto (tgt := 92) hx hb dX10_reckon_339 (by decide) ?_
                                    exact ihlp30 (((t.2.2.1 4 p_).toInt % 4096).toNat) (x0 :: S1) G29 _ _ _ t107 y28 (hR) hI hG hE (kb_w b108 (by decide) (by decide)) (kb_w b52 (by decide) (by decide)) (htop) (⟨by have w1 := qt107; have w2 := qt105; omega, by omega⟩) (hst) (sB_w hsb (by omega)) (hwd) hP hD hS (lv_sub hl [0, 3, 4, 5, 6, 7, 8, 9, 10] rfl)
                          · have b109 : kb 4 t45 4 := ⟨by omega, by omega⟩
                            refine lv_aload hx hb dX10_reckon_222 (lv_at hl 10 rfl) ?_
                            refine lv_iload hx hb dX10_reckon_224 (lv_at hl 3 rfl) ?_
                            refine lv_iconst (v := 1) hx hb dX10_reckon_226 (by decide) ?_
                            refine lv_isub hx hb dX10_reckon_227 ?_
                            refine lv_topi (fun t110 et110 => ?_)
                            have b111 : kb 0 t110 31 := kb_eq et110 (kb_sub b52 kc_1 (by decide) (by decide))
                            have qt110 : t110.toInt = y28.toInt - 1 := by rw [et110]; exact kt_subc b52 kc_1 (by decide) (by decide)
                            refine va_lald hx hb hK hP 18 3 rfl rfl (kb_in b111 (by decide) (by decide)) dX10_reckon_228 ?_
                            refine lv_topl (fun t112 et112 => ?_)
                            have hv113 : t112.toInt = x0 := by rw [et112, show t110.toNatClampNeg = S1.length from (by have w1 := qt110; unfold Int32.toNatClampNeg; omega)]; exact hst.1
                            refine lv_lconst (v := 0) hx hb dX10_reckon_229 (by decide) ?_
                            refine W.lcmp hx hb dX10_reckon_230 ?_
                            refine lv_topi (fun t114 et114 => ?_)
                            refine lv_if_eq (tgt := 238) hx hb dX10_reckon_231 (by decide) (fun c115 => ?_) (fun c115 => ?_)
                            · have h116 := klc_eq (et114 ▸ c115)
                              refine lv_iconst (v := 0) hx hb dX10_reckon_238 (by decide) ?_
                              refine lv_iload hx hb dX10_reckon_239 (lv_at hl 1 rfl) ?_
                              refine lv_iconst (v := 3) hx hb dX10_reckon_241 (by decide) ?_
                              refine lv_icmp_ne (tgt := 249) hx hb dX10_reckon_242 (by decide) (fun c117 => ?_) (fun c117 => ?_)
                              · refine lv_iconst (v := 0) hx hb dX10_reckon_249 (by decide) ?_
                                refine lv_icmp_ne (tgt := 274) hx hb dX10_reckon_250 (by decide) (fun c118 => ?_) (fun c118 => ?_)
                                · exact kb_nsame c118 kc_0 kc_0
                                · have hR0 := (rf_un hlt (by omega)).symm.trans hM
                                  rw [if_pos (by have w1 := congrArg Int64.toInt h116; have k0 : (0 : Int64).toInt = 0 := (by decide +kernel); rw [hv113, k0] at w1; exact w1)] at hR0
                                  obtain ⟨hja, hR⟩ := ite_some hR0
                                  have b119 : kb 1 t47 4095 := ⟨by omega, (b48).2⟩
                                  refine lv_iload hx hb dX10_reckon_253 (lv_at hl 0 rfl) ?_
                                  refine lv_iload hx hb dX10_reckon_255 (lv_at hl 2 rfl) ?_
                                  refine lv_icmp_le (tgt := 267) hx hb dX10_reckon_257 (by decide) (fun c120 => ?_) (fun c120 => ?_)
                                  · exact (by have w1 := kc_le c120; omega : False).elim
                                  · have h121 := (kc_nle c120)
                                    refine lv_iload hx hb dX10_reckon_260 (lv_at hl 0 rfl) ?_
                                    refine lv_iconst (v := 1) hx hb dX10_reckon_262 (by decide) ?_
                                    refine lv_isub hx hb dX10_reckon_263 ?_
                                    refine lv_topi (fun t122 et122 => ?_)
                                    have b123 : kb 0 t122 4094 := kb_eq et122 (kb_sub b119 kc_1 (by decide) (by decide))
                                    have qt122 : t122.toInt = t47.toInt - 1 := by rw [et122]; exact kt_subc b119 kc_1 (by decide) (by decide)
                                    refine lv_goto (tgt := 269) hx hb dX10_reckon_264 (by decide) ?_
                                    refine lv_istore (lv' := [(8, .int t122), (10, .int t47), (9, .int t45), (7, .int y28), (6, .int t18), (5, .int t3), (0, .ref (t.1 0)), (1, .int cl), (2, .int pc_), (3, .ref (r 17)), (4, .ref (r 18))]) hx hb dX10_reckon_269 hl (by decide) rfl (fun ls hl => ?_)
                                    refine lv_goto (tgt := 336) hx hb dX10_reckon_271 (by decide) ?_
                                    obtain ⟨t124, et124⟩ : ∃ z : Int32, z = t122 + Int32.ofInt 1 := ⟨_, rfl⟩
                                    have qt124 : t124.toInt = t122.toInt + 1 := by rw [et124]; exact km_inc b123 (by decide) (by decide)
                                    have b125 : kb 1 t124 4095 := kb_inc (k := 1) qt124 b123
                                    refine lv_iinc (v := t124) (lv' := [(8, .int t124), (10, .int t47), (9, .int t45), (7, .int y28), (6, .int t18), (5, .int t3), (0, .ref (t.1 0)), (1, .int cl), (2, .int pc_), (3, .ref (r 17)), (4, .ref (r 18))]) hx hb dX10_reckon_336 hl (k := 0) rfl et124.symm (by decide) rfl (fun ls hl => ?_)
                                    refine lv_goto (tgt := 92) hx hb dX10_reckon_339 (by decide) ?_
                                    exact ihlp30 (((t.2.2.1 4 p_).toInt % 4096).toNat) (x0 :: S1) G29 _ _ _ t124 y28 (hR) hI hG hE (kb_w b125 (by decide) (by decide)) (kb_w b52 (by decide) (by decide)) (htop) (⟨by have w1 := qt124; have w2 := qt122; omega, by omega⟩) (hst) (sB_w hsb (by omega)) (hwd) hP hD hS (lv_sub hl [0, 3, 4, 5, 6, 7, 8, 9, 10] rfl)
                              · exact kb_dj c117 b109 kc_3 (by decide)
                            · have h126 := klc_ne (et114 ▸ c115)
                              refine lv_iconst (v := 1) hx hb dX10_reckon_234 (by decide) ?_
                              refine lv_goto (tgt := 239) hx hb dX10_reckon_235 (by decide) ?_
                              refine lv_iload hx hb dX10_reckon_239 (lv_at hl 1 rfl) ?_
                              refine lv_iconst (v := 3) hx hb dX10_reckon_241 (by decide) ?_
                              refine lv_icmp_ne (tgt := 249) hx hb dX10_reckon_242 (by decide) (fun c127 => ?_) (fun c127 => ?_)
                              · refine lv_iconst (v := 0) hx hb dX10_reckon_249 (by decide) ?_
                                refine lv_icmp_ne (tgt := 274) hx hb dX10_reckon_250 (by decide) (fun c128 => ?_) (fun c128 => ?_)
                                · have hR := (rf_un hlt (by omega)).symm.trans hM
                                  rw [if_neg (fun q => h126 (Int64.toInt_inj.mp (by have k0 : (0 : Int64).toInt = 0 := (by decide +kernel); rw [hv113, k0]; exact q)))] at hR
                                  obtain ⟨t129, et129⟩ : ∃ z : Int32, z = y28 + Int32.ofInt (-1) := ⟨_, rfl⟩
                                  have qt129 : t129.toInt = y28.toInt - 1 := by rw [et129]; exact km_dec b52 (by decide)
                                  have b130 : kb 0 t129 31 := kb_inc (k := (-1)) qt129 b52
                                  refine lv_iinc (v := t129) (lv' := [(7, .int t129), (10, .int t47), (9, .int t45), (8, .int y27), (6, .int t18), (5, .int t3), (0, .ref (t.1 0)), (1, .int cl), (2, .int pc_), (3, .ref (r 17)), (4, .ref (r 18))]) hx hb dX10_reckon_274 hl (k := 3) rfl et129.symm (by decide) rfl (fun ls hl => ?_)
                                  refine lv_goto (tgt := 336) hx hb dX10_reckon_277 (by decide) ?_
                                  obtain ⟨t131, et131⟩ : ∃ z : Int32, z = y27 + Int32.ofInt 1 := ⟨_, rfl⟩
                                  have qt131 : t131.toInt = y27.toInt + 1 := by rw [et131]; exact km_inc b42 (by decide) (by decide)
                                  have b132 : kb 1 t131 400 := kb_inc (k := 1) qt131 b42
                                  refine lv_iinc (v := t131) (lv' := [(8, .int t131), (7, .int t129), (10, .int t47), (9, .int t45), (6, .int t18), (5, .int t3), (0, .ref (t.1 0)), (1, .int cl), (2, .int pc_), (3, .ref (r 17)), (4, .ref (r 18))]) hx hb dX10_reckon_336 hl (k := 3) rfl et131.symm (by decide) rfl (fun ls hl => ?_)
                                  refine lv_goto (tgt := 92) hx hb dX10_reckon_339 (by decide) ?_
                                  exact ihlp30 (p_ + 1) (S1) G29 _ _ _ t131 t129 (hR) hI hG hE (kb_w b132 (by decide) (by decide)) (kb_w b130 (by decide) (by decide)) (by have w1 := qt129; omega) (⟨by have w1 := qt131; omega, by omega⟩) (hst.2) (sB_w (sB_c hsb).2 (by omega)) (hwd) hP hD hS (lv_sub hl [0, 1, 4, 5, 6, 7, 8, 9, 10] rfl)
                                · exact kb_dj c128 kc_1 kc_0 (by decide)
                              · exact kb_dj c127 b109 kc_3 (by decide)
                      · have b133 : kb 2 t45 2 := kb_eq c55 kc_2
                        refine lv_aload hx hb dX10_reckon_197 (lv_at hl 10 rfl) ?_
                        refine lv_iload hx hb dX10_reckon_199 (lv_at hl 3 rfl) ?_
                        refine lv_iconst (v := 1) hx hb dX10_reckon_201 (by decide) ?_
                        refine lv_isub hx hb dX10_reckon_202 ?_
                        refine lv_topi (fun t134 et134 => ?_)
                        have b135 : kb 0 t134 31 := kb_eq et134 (kb_sub b52 kc_1 (by decide) (by decide))
                        have qt134 : t134.toInt = y28.toInt - 1 := by rw [et134]; exact kt_subc b52 kc_1 (by decide) (by decide)
                        refine lv_lconst (v := 1) hx hb dX10_reckon_203 (by decide) ?_
                        refine lv_aload hx hb dX10_reckon_204 (lv_at hl 10 rfl) ?_
                        refine lv_iload hx hb dX10_reckon_206 (lv_at hl 3 rfl) ?_
                        refine lv_iconst (v := 1) hx hb dX10_reckon_208 (by decide) ?_
                        refine lv_isub hx hb dX10_reckon_209 ?_
                        refine k_top (z := t134) et134.symm ?_
                        refine va_lald hx hb hK hP 18 3 rfl rfl (kb_in b135 (by decide) (by decide)) dX10_reckon_210 ?_
                        refine lv_topl (fun t136 et136 => ?_)
                        have hv137 : t136.toInt = x0 := by rw [et136, show t134.toNatClampNeg = S1.length from (by have w1 := qt134; unfold Int32.toNatClampNeg; omega)]; exact hst.1
                        refine lv_lsub hx hb dX10_reckon_211 ?_
                        refine lv_topl (fun t138 et138 => ?_)
                        have hR := (rf_not hlt (by have w1 := (b133).1; have w2 := (b133).2; omega)).symm.trans hM
                        have hnv : t138.toInt = 1 - x0 := by have k1 : (1 : Int64).toInt = 1 := (by decide +kernel); rw [et138, l_sub (by rw [k1]; unfold oBd; omega) (by rw [hv137]; exact hox), k1, hv137]
                        refine va_last hx hb hK hP hD hS 18 3 rfl rfl (kb_in b135 (by decide) (by decide)) dX10_reckon_212 (fun H locs hP hD hS => ?_)
                        have hP : va_P D vwCl (xX K r f a (va_up G29.1 18 (va_up (G29.1 18) t134.toNatClampNeg t138), G29.2) tx) H := hP
                        have hD : va_D A (xX K r f a (va_up G29.1 18 (va_up (G29.1 18) t134.toNatClampNeg t138), G29.2) tx) := hD
                        refine k_gen (P := fun z => va_P D vwCl (xX K r f a z tx) H ∧ va_D A (xX K r f a z tx) ∧ (xI f a) ∧ (gOK K z.2 tt) ∧ (xEk ([], [], []) f a g f a z)) ((va_up G29.1 18 (va_up (G29.1 18) t134.toNatClampNeg t138), G29.2)) ⟨hP, hD, hI, hG, (xEk_g hE)⟩ (fun g_139 eg_139 hq => ?_)
                        obtain ⟨hP, hD, hI, hG, hE⟩ := hq
                        refine lv_goto (tgt := 336) hx hb dX10_reckon_213 (by decide) ?_
                        obtain ⟨t140, et140⟩ : ∃ z : Int32, z = y27 + Int32.ofInt 1 := ⟨_, rfl⟩
                        have qt140 : t140.toInt = y27.toInt + 1 := by rw [et140]; exact km_inc b42 (by decide) (by decide)
                        have b141 : kb 1 t140 400 := kb_inc (k := 1) qt140 b42
                        refine lv_iinc (v := t140) (lv' := [(8, .int t140), (10, .int t47), (9, .int t45), (7, .int y28), (6, .int t18), (5, .int t3), (0, .ref (t.1 0)), (1, .int cl), (2, .int pc_), (3, .ref (r 17)), (4, .ref (r 18))]) hx hb dX10_reckon_336 hl (k := 2) rfl et140.symm (by decide) rfl (fun ls hl => ?_)
                        refine lv_goto (tgt := 92) hx hb dX10_reckon_339 (by decide) ?_
                        exact ihlp30 (p_ + 1) ((1 - x0) :: S1) g_139 _ _ _ t140 y28 (hR) hI hG hE (kb_w b141 (by decide) (by decide)) (kb_w b52 (by decide) (by decide)) (htop) (⟨by have w1 := qt140; omega, by omega⟩) (by rw [← eg_139]; exact st_pu (by have w1 := qt134; unfold Int32.toNatClampNeg; omega) hnv hst.2) (sB_i (by unfold oBp at *; omega) (sB_w (sB_c hsb).2 (by omega))) (fun j hj => by rw [← eg_139]; exact hwd j hj) hP hD hS (lv_sub hl [0, 3, 4, 5, 6, 7, 8, 9, 10] rfl)
                    · have h142 := (kc_nle c53)
                      exact kb_no (kr_lt1 h142 b52 kc_1 (H := 0) (by decide)) (by decide)
                  · have h143 := (kc_nlt c49)
                    have b144 : kb 0 t45 1 := kr_le1 h143 b46 kc_1
                    rcases (show t45.toInt = 0 ∨ t45.toInt = 1 by have w1 := (b144).1; have w2 := (b144).2; omega) with ho | ho
                    · have b145 : kb 0 t45 0 := ⟨by omega, by omega⟩
                      obtain ⟨hS32, hR⟩ := ro_push hlt (by omega) hM
                      have b146 : kb 0 y28 31 := ⟨by omega, by omega⟩
                      have hck : y28.toNatClampNeg = S.length := cl_nat htop
                      refine lv_iload hx hb dX10_reckon_130 (lv_at hl 3 rfl) ?_
                      refine lv_aload hx hb dX10_reckon_132 (lv_at hl 10 rfl) ?_
                      refine va_alen (v := 32) hx hb hK hP 18 3 rfl rfl rfl dX10_reckon_134 ?_
                      refine lv_icmp_ge (tgt := 151) hx hb dX10_reckon_135 (by decide) (fun c147 => ?_) (fun c147 => ?_)
                      · have h148 := (kc_le c147)
                        exact kb_no (kr_le1 h148 kc_32 b146) (by decide)
                      · have h149 := (kc_nle c147)
                        refine lv_iload hx hb dX10_reckon_138 (lv_at hl 1 rfl) ?_
                        refine lv_iconst (v := 1) hx hb dX10_reckon_140 (by decide) ?_
                        refine lv_icmp_ne (tgt := 155) hx hb dX10_reckon_141 (by decide) (fun c150 => ?_) (fun c150 => ?_)
                        · refine lv_aload hx hb dX10_reckon_155 (lv_at hl 10 rfl) ?_
                          refine lv_iload hx hb dX10_reckon_157 (lv_at hl 3 rfl) ?_
                          refine lv_iload hx hb dX10_reckon_159 (lv_at hl 1 rfl) ?_
                          refine lv_if_ne (tgt := 170) hx hb dX10_reckon_161 (by decide) (fun c151 => ?_) (fun c151 => ?_)
                          · exact kb_nsame c151 b145 kc_0
                          · refine lv_iload hx hb dX10_reckon_164 (lv_at hl 0 rfl) ?_
                            refine lv_i2l hx hb dX10_reckon_166 rfl ?_
                            refine lv_topl (fun t152 et152 => ?_)
                            have b153 : kbl 0 t152 4095 := kbl_eq et152 (kbl_i2l b48)
                            refine lv_goto (tgt := 174) hx hb dX10_reckon_167 (by decide) ?_
                            refine va_last hx hb hK hP hD hS 18 3 rfl rfl (kb_in b146 (by decide) (by decide)) dX10_reckon_174 (fun H locs hP hD hS => ?_)
                            have hP : va_P D vwCl (xX K r f a (va_up G29.1 18 (va_up (G29.1 18) y28.toNatClampNeg t152), G29.2) tx) H := hP
                            have hD : va_D A (xX K r f a (va_up G29.1 18 (va_up (G29.1 18) y28.toNatClampNeg t152), G29.2) tx) := hD
                            refine k_gen (P := fun z => va_P D vwCl (xX K r f a z tx) H ∧ va_D A (xX K r f a z tx) ∧ (xI f a) ∧ (gOK K z.2 tt) ∧ (xEk ([], [], []) f a g f a z)) ((va_up G29.1 18 (va_up (G29.1 18) y28.toNatClampNeg t152), G29.2)) ⟨hP, hD, hI, hG, (xEk_g hE)⟩ (fun g_154 eg_154 hq => ?_)
                            obtain ⟨hP, hD, hI, hG, hE⟩ := hq
                            obtain ⟨t155, et155⟩ : ∃ z : Int32, z = y28 + Int32.ofInt 1 := ⟨_, rfl⟩
                            have qt155 : t155.toInt = y28.toInt + 1 := by rw [et155]; exact km_inc b146 (by decide) (by decide)
                            have b156 : kb 1 t155 32 := kb_inc (k := 1) qt155 b146
                            refine lv_iinc (v := t155) (lv' := [(7, .int t155), (10, .int t47), (9, .int t45), (8, .int y27), (6, .int t18), (5, .int t3), (0, .ref (t.1 0)), (1, .int cl), (2, .int pc_), (3, .ref (r 17)), (4, .ref (r 18))]) hx hb dX10_reckon_175 hl (k := 3) rfl et155.symm (by decide) rfl (fun ls hl => ?_)
                            refine lv_goto (tgt := 336) hx hb dX10_reckon_178 (by decide) ?_
                            obtain ⟨t157, et157⟩ : ∃ z : Int32, z = y27 + Int32.ofInt 1 := ⟨_, rfl⟩
                            have qt157 : t157.toInt = y27.toInt + 1 := by rw [et157]; exact km_inc b42 (by decide) (by decide)
                            have b158 : kb 1 t157 400 := kb_inc (k := 1) qt157 b42
                            refine lv_iinc (v := t157) (lv' := [(8, .int t157), (7, .int t155), (10, .int t47), (9, .int t45), (6, .int t18), (5, .int t3), (0, .ref (t.1 0)), (1, .int cl), (2, .int pc_), (3, .ref (r 17)), (4, .ref (r 18))]) hx hb dX10_reckon_336 hl (k := 3) rfl et157.symm (by decide) rfl (fun ls hl => ?_)
                            refine lv_goto (tgt := 92) hx hb dX10_reckon_339 (by decide) ?_
                            exact ihlp30 (p_ + 1) ((t.2.2.1 4 p_).toInt % 4096 :: S) g_154 _ _ _ t157 t155 (hR) hI hG hE (kb_w b158 (by decide) (by decide)) (kb_w b156 (by decide) (by decide)) (by have w1 := qt155; show _ = ((S.length + 1 : Nat) : Int); omega) (⟨by have w1 := qt157; omega, by omega⟩) (by rw [← eg_154]; exact st_pu hck (by rw [et152]; exact (kt_i2l _).trans har) hst) (sB_i (by unfold oBp; omega) (sB_w hsb (by omega))) (fun j hj => by rw [← eg_154]; exact hwd j hj) hP hD hS (lv_sub hl [0, 1, 4, 5, 6, 7, 8, 9, 10] rfl)
                        · exact kb_dj c150 b145 kc_1 (by decide)
                    · have b159 : kb 1 t45 1 := ⟨by omega, by omega⟩
                      obtain ⟨hS32, hwi, hR⟩ := ro_ask hlt (by omega) hM
                      have b160 : kb 0 y28 31 := ⟨by omega, by omega⟩
                      have b161 : kb 0 t47 9 := ⟨by omega, by omega⟩
                      have hck : y28.toNatClampNeg = S.length := cl_nat htop
                      refine lv_iload hx hb dX10_reckon_130 (lv_at hl 3 rfl) ?_
                      refine lv_aload hx hb dX10_reckon_132 (lv_at hl 10 rfl) ?_
                      refine va_alen (v := 32) hx hb hK hP 18 3 rfl rfl rfl dX10_reckon_134 ?_
                      refine lv_icmp_ge (tgt := 151) hx hb dX10_reckon_135 (by decide) (fun c162 => ?_) (fun c162 => ?_)
                      · have h163 := (kc_le c162)
                        exact kb_no (kr_le1 h163 kc_32 b160) (by decide)
                      · have h164 := (kc_nle c162)
                        refine lv_iload hx hb dX10_reckon_138 (lv_at hl 1 rfl) ?_
                        refine lv_iconst (v := 1) hx hb dX10_reckon_140 (by decide) ?_
                        refine lv_icmp_ne (tgt := 155) hx hb dX10_reckon_141 (by decide) (fun c165 => ?_) (fun c165 => ?_)
                        · exact kb_nsame c165 b159 kc_1
                        · refine lv_iload hx hb dX10_reckon_144 (lv_at hl 0 rfl) ?_
                          refine lv_aload_n hx hb dX10_reckon_146 rfl (lv_at hl 9 rfl) ?_
                          refine va_alen (v := 10) hx hb hK hP 17 3 rfl rfl rfl dX10_reckon_147 ?_
                          refine lv_icmp_lt (tgt := 155) hx hb dX10_reckon_148 (by decide) (fun c166 => ?_) (fun c166 => ?_)
                          · have h167 := (kc_lt c166)
                            refine lv_aload hx hb dX10_reckon_155 (lv_at hl 10 rfl) ?_
                            refine lv_iload hx hb dX10_reckon_157 (lv_at hl 3 rfl) ?_
                            refine lv_iload hx hb dX10_reckon_159 (lv_at hl 1 rfl) ?_
                            refine lv_if_ne (tgt := 170) hx hb dX10_reckon_161 (by decide) (fun c168 => ?_) (fun c168 => ?_)
                            · refine lv_aload_n hx hb dX10_reckon_170 rfl (lv_at hl 9 rfl) ?_
                              refine lv_iload hx hb dX10_reckon_171 (lv_at hl 0 rfl) ?_
                              refine va_lald hx hb hK hP 17 3 rfl rfl (kb_in b161 (by decide) (by decide)) dX10_reckon_173 ?_
                              refine lv_topl (fun t169 et169 => ?_)
                              refine va_last hx hb hK hP hD hS 18 3 rfl rfl (kb_in b160 (by decide) (by decide)) dX10_reckon_174 (fun H locs hP hD hS => ?_)
                              have hP : va_P D vwCl (xX K r f a (va_up G29.1 18 (va_up (G29.1 18) y28.toNatClampNeg t169), G29.2) tx) H := hP
                              have hD : va_D A (xX K r f a (va_up G29.1 18 (va_up (G29.1 18) y28.toNatClampNeg t169), G29.2) tx) := hD
                              refine k_gen (P := fun z => va_P D vwCl (xX K r f a z tx) H ∧ va_D A (xX K r f a z tx) ∧ (xI f a) ∧ (gOK K z.2 tt) ∧ (xEk ([], [], []) f a g f a z)) ((va_up G29.1 18 (va_up (G29.1 18) y28.toNatClampNeg t169), G29.2)) ⟨hP, hD, hI, hG, (xEk_g hE)⟩ (fun g_170 eg_170 hq => ?_)
                              obtain ⟨hP, hD, hI, hG, hE⟩ := hq
                              obtain ⟨t171, et171⟩ : ∃ z : Int32, z = y28 + Int32.ofInt 1 := ⟨_, rfl⟩
                              have qt171 : t171.toInt = y28.toInt + 1 := by rw [et171]; exact km_inc b160 (by decide) (by decide)
                              have b172 : kb 1 t171 32 := kb_inc (k := 1) qt171 b160
                              refine lv_iinc (v := t171) (lv' := [(7, .int t171), (10, .int t47), (9, .int t45), (8, .int y27), (6, .int t18), (5, .int t3), (0, .ref (t.1 0)), (1, .int cl), (2, .int pc_), (3, .ref (r 17)), (4, .ref (r 18))]) hx hb dX10_reckon_175 hl (k := 3) rfl et171.symm (by decide) rfl (fun ls hl => ?_)
                              refine lv_goto (tgt := 336) hx hb dX10_reckon_178 (by decide) ?_
                              obtain ⟨t173, et173⟩ : ∃ z : Int32, z = y27 + Int32.ofInt 1 := ⟨_, rfl⟩
                              have qt173 : t173.toInt = y27.toInt + 1 := by rw [et173]; exact km_inc b42 (by decide) (by decide)
                              have b174 : kb 1 t173 400 := kb_inc (k := 1) qt173 b42
                              refine lv_iinc (v := t173) (lv' := [(8, .int t173), (7, .int t171), (10, .int t47), (9, .int t45), (6, .int t18), (5, .int t3), (0, .ref (t.1 0)), (1, .int cl), (2, .int pc_), (3, .ref (r 17)), (4, .ref (r 18))]) hx hb dX10_reckon_336 hl (k := 3) rfl et173.symm (by decide) rfl (fun ls hl => ?_)
                              refine lv_goto (tgt := 92) hx hb dX10_reckon_339 (by decide) ?_
                              exact ihlp30 (p_ + 1) (Ws ((t.2.2.1 4 p_).toInt % 4096).toNat :: S) g_170 _ _ _ t173 t171 (hR) hI hG hE (kb_w b174 (by decide) (by decide)) (kb_w b172 (by decide) (by decide)) (by have w1 := qt171; show _ = ((S.length + 1 : Nat) : Int); omega) (⟨by have w1 := qt173; omega, by omega⟩) (by rw [← eg_170]; exact st_pu hck (by rw [et169, show t47.toNatClampNeg = ((t.2.2.1 4 p_).toInt % 4096).toNat from (by unfold Int32.toNatClampNeg; omega)]; exact hwd _ (by omega)) hst) (sB_i (oBp_w (hp5 _) (by omega)) (sB_w hsb (by omega))) (fun j hj => by rw [← eg_170]; exact hwd j hj) hP hD hS (lv_sub hl [0, 1, 4, 5, 6, 7, 8, 9, 10] rfl)
                            · exact kb_dj c168 b159 kc_0 (by decide)
                          · have h175 := (kc_nlt c166)
                            exact kb_no (kr_le1 h175 kc_10 b161) (by decide)
            exact lp30 (f0) m0 [] g _ _ _ t13 0 (hf0) hI hG hE (kb_w b25 (by decide) (by decide)) (kb_w kc_0 (by decide) (by decide)) (by decide +kernel) (⟨hm0, by omega⟩) (trivial) (fun x hx => absurd hx List.not_mem_nil) (hp4) hP hD hS (lv_sub hl [0, 1, 2, 3, 4, 5, 6, 7, 8] rfl)
          · have h176 := (kc_nlt c23)
            have hve : v_ = e1 := pc_eq hp3 (by have w1 := kc_nlt c23; omega)
            refine lv_lconst (v := 1) hx hb dX10_reckon_78 (by decide) ?_
            exact kL_ret (v := 1) hx hb hr hlocks hK hS dX10_reckon_79 (f, a, g) hP hD ⟨(kbl_w kcl_1 (by decide) (by decide)), hI, hG, hE, (by rw [hve]; show (1 : Int64).toInt = enc (some 1); decide +kernel), (fun z hz => by rw [hve] at hz; have w1 := Option.some.inj hz; unfold oBd; omega), hp4⟩
        · exact (by have w1 := kc_nle c21; have w2 := hnt; omega : False).elim
set_option maxHeartbeats 4000000 in
set_option maxRecDepth 100000 in
theorem z_reckonD  (l : Launch) {D : va_G} {K : Nat → ClassId} (r : Nat → Nat) (f : Nat → Int32) (a : Nat → Nat → Int32) (g : xG) (tx tt : va_W) (hT : ∀ c ∈ tt, c ∈ tx) (hI : xI f a) (hG : gOK K g.2 tt) (cl : Int32) (pc_ : Int32) (bcl : kb 0 cl 11) (bpc_ : kb 0 pc_ 2) (v_ : eV) (Ws : Nat → Int) (m0 m1 : Nat) (hp0 : (a 54 (3 * cl.toInt.toNat + pc_.toInt.toNat)).toInt = (m0 : Int)) (hp1 : (a 54 (3 * cl.toInt.toNat + pc_.toInt.toNat + 1)).toInt = (m1 : Int)) (hp2 : m0 ≤ m1 ∧ m1 ≤ 400) (hp3 : pcP (a 55) 26 m0 m1 v_) (hp4 : ∀ j, j < 26 → (g.1 49 j).toInt = Ws j) (hp5 : wB Ws) : kLG l yX10_reckon (Cond.code yX10_reckon cX10_reckon 13 (some .long) :: kG) (rmD 2 0 0) D K [.ref (r 51), .int cl, .int pc_, .ref (r 49), .ref (r 18)] (xX K r f a g tx) (fun v (u : xS) => kbl (-9223372036854775808) v 9223372036854775807 ∧ xI u.1 u.2.1 ∧ gOK K u.2.2.2 tt ∧ xEk ([], [], []) f a g u.1 u.2.1 u.2.2 ∧ v.toInt = enc (v_ Ws) ∧ (∀ z, v_ Ws = some z → oBd z) ∧ (∀ j, j < 26 → (u.2.2.1 49 j).toInt = Ws j)) (fun u => xX K r u.1 u.2.1 u.2.2 tx) 0 0 := by
  refine kLG.of (cc := cX10_reckon) (maxL := 13) (ret := (some .long)) (by decide) rfl (Nat.le_of_ble_eq_true rfl) ?_
  intro p e s m below meth c A hx hb hr hml hown hts hlocks hnm hK hP hD hS hA hV ls hl
  have hE : xEk ([], [], []) f a g f a g := xEk_rf
  have hg : ∀ w ∈ kG, w.before _ s = true := fun w h => hts w (List.mem_cons_of_mem _ h)
  have hown : s.vm.findClass RX10 = some m.cls := hown
  have hl : lv_has ls 13 [(0, .ref (r 51)), (1, .int cl), (2, .int pc_), (3, .ref (r 49)), (4, .ref (r 18))] := hl
  have hm400 : m1 ≤ 400 := hp2.2
  refine lv_iload_n hx hb dX10_reckon_0 rfl (lv_at hl 1 rfl) ?_
  refine lv_iconst (v := 3) hx hb dX10_reckon_1 (by decide) ?_
  refine lv_imul hx hb dX10_reckon_2 ?_
  refine lv_topi (fun t1 et1 => ?_)
  have b2 : kb 0 t1 33 := kb_eq et1 (kb_mul bcl kc_3 (by decide) (by decide) (by decide))
  have qt1 : t1.toInt = cl.toInt * 3 := by rw [et1]; exact kt_mulc bcl kc_3 (by decide) (by decide) (by decide)
  refine lv_iload_n hx hb dX10_reckon_3 rfl (lv_at hl 2 rfl) ?_
  refine lv_iadd hx hb dX10_reckon_4 ?_
  refine lv_topi (fun t3 et3 => ?_)
  have b4 : kb 0 t3 35 := kb_eq et3 (kb_add b2 bpc_ (by decide) (by decide))
  have qt3 : t3.toInt = t1.toInt + pc_.toInt := by rw [et3]; exact kt_add b2 bpc_ (by decide) (by decide)
  refine lv_istore (lv' := [(5, .int t3), (0, .ref (r 51)), (1, .int cl), (2, .int pc_), (3, .ref (r 49)), (4, .ref (r 18))]) hx hb dX10_reckon_5 hl (by decide) rfl (fun ls hl => ?_)
  refine lv_iload hx hb dX10_reckon_7 (lv_at hl 0 rfl) ?_
  refine lv_if_lt (tgt := 51) hx hb dX10_reckon_9 (by decide) (fun c5 => ?_) (fun c5 => ?_)
  · have h6 := (kc_lt c5)
    exact kb_no (kr_lt1 h6 b4 kc_0 (H := (-1)) (by decide)) (by decide)
  · have h7 := (kc_nlt c5)
    refine lv_iload hx hb dX10_reckon_12 (lv_at hl 0 rfl) ?_
    refine lv_iconst (v := 1) hx hb dX10_reckon_14 (by decide) ?_
    refine lv_iadd hx hb dX10_reckon_15 ?_
    refine lv_topi (fun t8 et8 => ?_)
    have b9 : kb 1 t8 36 := kb_eq et8 (kb_add b4 kc_1 (by decide) (by decide))
    have qt8 : t8.toInt = t3.toInt + 1 := by rw [et8]; exact kt_addc b4 kc_1 (by decide) (by decide)
    refine lv_aload_n hx hb dX10_reckon_16 rfl (lv_at hl 1 rfl) ?_
    refine va_get (D := D) (ci := 10) (v := .ref (r 54)) (C := RX10) (T := TX10) (N := 6) hx hb hg inC10 hown hK hP 51 rfl rfl 3 (by decide) (hg _ wt2_48) (fun _ h9 => h9) rfl dX10_reckon_17 ?_
    refine va_alen (v := 37) hx hb hK hP 54 0 rfl rfl rfl dX10_reckon_20 ?_
    refine lv_icmp_ge (tgt := 51) hx hb dX10_reckon_21 (by decide) (fun c10 => ?_) (fun c10 => ?_)
    · have h11 := (kc_le c10)
      exact kb_no (kr_le1 h11 kc_37 b9) (by decide)
    · have h12 := (kc_nle c10)
      refine lv_aload_n hx hb dX10_reckon_24 rfl (lv_at hl 1 rfl) ?_
      refine va_get (D := D) (ci := 10) (v := .ref (r 54)) (C := RX10) (T := TX10) (N := 6) hx hb hg inC10 hown hK hP 51 rfl rfl 3 (by decide) (hg _ wt2_48) (fun _ h9 => h9) rfl dX10_reckon_25 ?_
      refine lv_iload hx hb dX10_reckon_28 (lv_at hl 0 rfl) ?_
      refine va_iald hx hb hK hP 54 0 rfl rfl (kb_in b4 (by decide) (by decide)) dX10_reckon_30 ?_
      refine lv_topi (fun t13 et13 => ?_)
      have hmk : t3.toNatClampNeg = 3 * cl.toInt.toNat + pc_.toInt.toNat := by have w1 := qt3; have w2 := qt1; have w3 := bcl.1; have w4 := bpc_.1; unfold Int32.toNatClampNeg; omega
      have hm0 : t13.toInt = (m0 : Int) := by rw [et13, hmk]; exact hp0
      have hm12 := hp2
      have b14 : kb 0 t13 400 := ⟨by omega, by omega⟩
      refine lv_if_lt (tgt := 51) hx hb dX10_reckon_31 (by decide) (fun c15 => ?_) (fun c15 => ?_)
      · have h16 := (kc_lt c15)
        exact kb_no (kr_lt1 h16 b14 kc_0 (H := (-1)) (by decide)) (by decide)
      · have h17 := (kc_nlt c15)
        refine lv_aload_n hx hb dX10_reckon_34 rfl (lv_at hl 1 rfl) ?_
        refine va_get (D := D) (ci := 10) (v := .ref (r 54)) (C := RX10) (T := TX10) (N := 6) hx hb hg inC10 hown hK hP 51 rfl rfl 3 (by decide) (hg _ wt2_48) (fun _ h9 => h9) rfl dX10_reckon_35 ?_
        refine lv_iload hx hb dX10_reckon_38 (lv_at hl 0 rfl) ?_
        refine lv_iconst (v := 1) hx hb dX10_reckon_40 (by decide) ?_
        refine lv_iadd hx hb dX10_reckon_41 ?_
        refine k_top (z := t8) et8.symm ?_
        refine va_iald hx hb hK hP 54 0 rfl rfl (kb_in b9 (by decide) (by decide)) dX10_reckon_42 ?_
        refine lv_topi (fun t18 et18 => ?_)
        have hmk1 : t8.toNatClampNeg = 3 * cl.toInt.toNat + pc_.toInt.toNat + 1 := by have w0 := qt8; have w1 := qt3; have w2 := qt1; have w3 := bcl.1; have w4 := bpc_.1; unfold Int32.toNatClampNeg; omega
        have hm1 : t18.toInt = (m1 : Int) := by rw [et18, hmk1]; exact hp1
        have b19 : kb 0 t18 400 := ⟨by omega, by omega⟩
        refine lv_aload_n hx hb dX10_reckon_43 rfl (lv_at hl 1 rfl) ?_
        refine va_get (D := D) (ci := 10) (v := .ref (r 55)) (C := RX10) (T := TX10) (N := 6) hx hb hg inC10 hown hK hP 51 rfl rfl 4 (by decide) (hg _ wt2_49) (fun _ h9 => h9) rfl dX10_reckon_44 ?_
        refine va_alen (v := 400) hx hb hK hP 55 0 rfl rfl rfl dX10_reckon_47 ?_
        refine lv_icmp_le (tgt := 55) hx hb dX10_reckon_48 (by decide) (fun c20 => ?_) (fun c20 => ?_)
        · have h21 := (kc_le c20)
          refine lv_aload_n hx hb dX10_reckon_55 rfl (lv_at hl 1 rfl) ?_
          refine va_get (D := D) (ci := 10) (v := .ref (r 54)) (C := RX10) (T := TX10) (N := 6) hx hb hg inC10 hown hK hP 51 rfl rfl 3 (by decide) (hg _ wt2_48) (fun _ h9 => h9) rfl dX10_reckon_56 ?_
          refine lv_iload hx hb dX10_reckon_59 (lv_at hl 0 rfl) ?_
          refine lv_iconst (v := 1) hx hb dX10_reckon_61 (by decide) ?_
          refine lv_iadd hx hb dX10_reckon_62 ?_
          refine k_top (z := t8) et8.symm ?_
          refine va_iald hx hb hK hP 54 0 rfl rfl (kb_in b9 (by decide) (by decide)) dX10_reckon_63 ?_
          refine k_top (z := t18) et18.symm ?_
          refine lv_istore (lv' := [(6, .int t18), (5, .int t3), (0, .ref (r 51)), (1, .int cl), (2, .int pc_), (3, .ref (r 49)), (4, .ref (r 18))]) hx hb dX10_reckon_64 hl (by decide) rfl (fun ls hl => ?_)
          refine lv_aload_n hx hb dX10_reckon_66 rfl (lv_at hl 2 rfl) ?_
          refine va_get (D := D) (ci := 10) (v := .ref (r 54)) (C := RX10) (T := TX10) (N := 6) hx hb hg inC10 hown hK hP 51 rfl rfl 3 (by decide) (hg _ wt2_48) (fun _ h9 => h9) rfl dX10_reckon_67 ?_
          refine lv_iload hx hb dX10_reckon_70 (lv_at hl 1 rfl) ?_
          refine va_iald hx hb hK hP 54 0 rfl rfl (kb_in b4 (by decide) (by decide)) dX10_reckon_72 ?_
          refine k_top (z := t13) et13.symm ?_
          refine lv_iload hx hb dX10_reckon_73 (lv_at hl 0 rfl) ?_
          refine lv_icmp_lt (tgt := 80) hx hb dX10_reckon_75 (by decide) (fun c22 => ?_) (fun c22 => ?_)
          · have h23 := (kc_lt c22)
            have b24 : kb 0 t13 399 := kr_lt1 h23 b14 b19 (by decide)
            have b25 : kb 1 t18 400 := kr_lt2 h23 b14 b19 (by decide)
            refine lv_iconst (v := 0) hx hb dX10_reckon_80 (by decide) ?_
            refine lv_istore (lv' := [(7, .int 0), (6, .int t18), (5, .int t3), (0, .ref (r 51)), (1, .int cl), (2, .int pc_), (3, .ref (r 49)), (4, .ref (r 18))]) hx hb dX10_reckon_81 hl (by decide) rfl (fun ls hl => ?_)
            refine lv_aload_n hx hb dX10_reckon_83 rfl (lv_at hl 3 rfl) ?_
            refine va_get (D := D) (ci := 10) (v := .ref (r 54)) (C := RX10) (T := TX10) (N := 6) hx hb hg inC10 hown hK hP 51 rfl rfl 3 (by decide) (hg _ wt2_48) (fun _ h9 => h9) rfl dX10_reckon_84 ?_
            refine lv_iload hx hb dX10_reckon_87 (lv_at hl 2 rfl) ?_
            refine va_iald hx hb hK hP 54 0 rfl rfl (kb_in b4 (by decide) (by decide)) dX10_reckon_89 ?_
            refine k_top (z := t13) et13.symm ?_
            refine lv_istore (lv' := [(8, .int t13), (7, .int 0), (6, .int t18), (5, .int t3), (0, .ref (r 51)), (1, .int cl), (2, .int pc_), (3, .ref (r 49)), (4, .ref (r 18))]) hx hb dX10_reckon_90 hl (by decide) rfl (fun ls hl => ?_)
            obtain ⟨f0, hf0⟩ := pc_run hp3 (by have w1 := kc_lt c22; omega) Ws
            have lp29 : ∀ (n30 : Nat) (p_ : Nat) (S : List Int) (G28 : xG) (H : Heap) (locs : List Loc) (ls : Array Slot) (y26 : Int32) (y27 : Int32), (rk (a 55) Ws 26 m1 n30 p_ S = some (v_ Ws)) → (xI f a) → (gOK K G28.2 tt) → (xEk ([], [], []) f a g f a G28) → (kb 0 y26 4096) → (kb 0 y27 32) → (y27.toInt = (S.length : Int)) → (y26.toInt = (p_ : Int) ∧ p_ ≤ 4096) → (stOk (G28.1 18) S) → (sB p_ S) → (∀ j, j < 26 → (G28.1 49 j).toInt = Ws j) → va_P D vwCl (xX K r f a G28 tx) H → va_D A (xX K r f a G28 tx) → va_S A s.heap H locs → lv_has ls 13 [(8, .int y26), (7, .int y27), (6, .int t18), (5, .int t3), (0, .ref (r 51)), (1, .int cl), (2, .int pc_), (3, .ref (r 49)), (4, .ref (r 18))] → W p l e (rmD 2 0 0) s m ([.ref (r 51), .int cl, .int pc_, .ref (r 49), .ref (r 18)] : List Value).toArray below meth c H locs 0 0 (kQl D (tysK K) (fun v (u : xS) => kbl (-9223372036854775808) v 9223372036854775807 ∧ xI u.1 u.2.1 ∧ gOK K u.2.2.2 tt ∧ xEk ([], [], []) f a g u.1 u.2.1 u.2.2 ∧ v.toInt = enc (v_ Ws) ∧ (∀ z, v_ Ws = some z → oBd z) ∧ (∀ j, j < 26 → (u.2.2.1 49 j).toInt = Ws j)) (fun u => xX K r u.1 u.2.1 u.2.2 tx) A below ([.ref (r 51), .int cl, .int pc_, .ref (r 49), .ref (r 18)] : List Value).toArray s 0 0) (F0 m 92 ls []) := by
              intro n30
              induction n30 with
              | zero =>
                intro p_ S G28  H locs ls y26 y27 hmlp29 hI hG hE b31 b32 hvlp29_0 hvlp29_1 hvlp29_2 hvlp29_3 hvlp29_4 hP hD hS hl
                exact (show False from by have h2 : (none : Option (Option Int)) = some (v_ Ws) := hmlp29; cases h2).elim
              | succ n30 ihlp29 =>
                intro p_ S G28  H locs ls y26 y27 hmlp29 hI hG hE b31 b32 hvlp29_0 hvlp29_1 hvlp29_2 hvlp29_3 hvlp29_4 hP hD hS hl
                have htop := hvlp29_0
                have hspt := hvlp29_1.1
                have hp4k := hvlp29_1.2
                have hst := hvlp29_2
                have hsb := hvlp29_3
                have hwd := hvlp29_4
                have hM : rkF (a 55) Ws 26 m1 (rk (a 55) Ws 26 m1 n30) p_ S = some (v_ Ws) := hmlp29
                refine lv_iload hx hb dX10_reckon_92 (lv_at hl 0 rfl) ?_
                refine lv_iload hx hb dX10_reckon_94 (lv_at hl 2 rfl) ?_
                refine lv_icmp_ge (tgt := 342) hx hb dX10_reckon_96 (by decide) (fun c33 => ?_) (fun c33 => ?_)
                · have h34 := (kc_le c33)
                  have b35 : kb 1 y26 4096 := kr_le2 h34 b25 b31
                  obtain ⟨xr, hSr, hvr⟩ := ro_end (by have w1 := kc_le c33; omega) hM
                  subst hSr
                  have htr : y27.toInt = 1 := htop
                  have b36 : kb 1 y27 1 := ⟨by omega, by omega⟩
                  refine lv_iload hx hb dX10_reckon_342 (lv_at hl 1 rfl) ?_
                  refine lv_iconst (v := 1) hx hb dX10_reckon_344 (by decide) ?_
                  refine lv_icmp_ne (tgt := 355) hx hb dX10_reckon_345 (by decide) (fun c37 => ?_) (fun c37 => ?_)
                  · exact kb_nsame c37 b36 kc_1
                  · refine lv_aload hx hb dX10_reckon_348 (lv_at hl 8 rfl) ?_
                    refine lv_iconst (v := 0) hx hb dX10_reckon_350 (by decide) ?_
                    refine va_lald hx hb hK hP 18 3 rfl rfl (kb_in kc_0 (by decide) (by decide)) dX10_reckon_351 ?_
                    refine lv_topl (fun t38 et38 => ?_)
                    refine lv_goto (tgt := 358) hx hb dX10_reckon_352 (by decide) ?_
                    exact kL_ret (v := t38) hx hb hr hlocks hK hS dX10_reckon_358 (f, a, G28) hP hD ⟨(kbl_any t38), hI, hG, hE, (by rw [hvr, et38]; exact hst.1), (fun z hz => by rw [hvr] at hz; rw [← Option.some.inj hz]; exact oBp_o (hsb xr List.mem_cons_self) (by omega)), hwd⟩
                · have h39 := (kc_nle c33)
                  have b40 : kb 0 y26 399 := kr_lt1 h39 b31 b25 (by decide)
                  have hlt : p_ < m1 := by have w1 := kc_nle c33; omega
                  have b41 : kb 0 y26 399 := ⟨by omega, by omega⟩
                  refine lv_aload_n hx hb dX10_reckon_99 rfl (lv_at hl 4 rfl) ?_
                  refine va_get (D := D) (ci := 10) (v := .ref (r 55)) (C := RX10) (T := TX10) (N := 6) hx hb hg inC10 hown hK hP 51 rfl rfl 4 (by decide) (hg _ wt2_49) (fun _ h9 => h9) rfl dX10_reckon_100 ?_
                  refine lv_iload hx hb dX10_reckon_103 (lv_at hl 0 rfl) ?_
                  refine va_iald hx hb hK hP 55 0 rfl rfl (kb_in b41 (by decide) (by decide)) dX10_reckon_105 ?_
                  refine lv_topi (fun t42 et42 => ?_)
                  have b43 : kb 0 t42 65535 := kb_eq et42 (xI_c hI _)
                  refine lv_bipush (v := 12) hx hb dX10_reckon_106 (by decide) ?_
                  refine lv_ishr hx hb dX10_reckon_108 ?_
                  refine lv_topi (fun t44 et44 => ?_)
                  have b45 : kb 0 t44 15 := kb_eq et44 (kb_shr12 b43 (by decide))
                  have qt44 : t44.toInt = t42.toInt / 4096 := by rw [et44]; exact kt_shr12 _
                  refine lv_istore (lv' := [(9, .int t44), (8, .int y26), (7, .int y27), (6, .int t18), (5, .int t3), (0, .ref (r 51)), (1, .int cl), (2, .int pc_), (3, .ref (r 49)), (4, .ref (r 18))]) hx hb dX10_reckon_109 hl (by decide) rfl (fun ls hl => ?_)
                  refine lv_aload_n hx hb dX10_reckon_111 rfl (lv_at hl 5 rfl) ?_
                  refine va_get (D := D) (ci := 10) (v := .ref (r 55)) (C := RX10) (T := TX10) (N := 6) hx hb hg inC10 hown hK hP 51 rfl rfl 4 (by decide) (hg _ wt2_49) (fun _ h9 => h9) rfl dX10_reckon_112 ?_
                  refine lv_iload hx hb dX10_reckon_115 (lv_at hl 1 rfl) ?_
                  refine va_iald hx hb hK hP 55 0 rfl rfl (kb_in b41 (by decide) (by decide)) dX10_reckon_117 ?_
                  refine k_top (z := t42) et42.symm ?_
                  refine lv_sipush (v := 4095) hx hb dX10_reckon_118 (by decide) ?_
                  refine lv_iand hx hb dX10_reckon_121 ?_
                  refine lv_topi (fun t46 et46 => ?_)
                  have b47 : kb 0 t46 4095 := kb_eq et46 (kb_and 12 (by decide) (by decide))
                  have qt46 : t46.toInt = t42.toInt % 4096 := by rw [et46]; exact kt_and12 b43 (by decide)
                  refine lv_istore (lv' := [(10, .int t46), (9, .int t44), (8, .int y26), (7, .int y27), (6, .int t18), (5, .int t3), (0, .ref (r 51)), (1, .int cl), (2, .int pc_), (3, .ref (r 49)), (4, .ref (r 18))]) hx hb dX10_reckon_122 hl (by decide) rfl (fun ls hl => ?_)
                  have hcl8 : y26.toNatClampNeg = p_ := cl_nat hspt
                  have hcv : t42 = a 55 p_ := et42.trans (congrArg (a 55) hcl8)
                  have hop : t44.toInt = (a 55 p_).toInt / 4096 := by rw [qt44, hcv]
                  have har : t46.toInt = (a 55 p_).toInt % 4096 := by rw [qt46, hcv]
                  refine lv_iload hx hb dX10_reckon_124 (lv_at hl 1 rfl) ?_
                  refine lv_iconst (v := 1) hx hb dX10_reckon_126 (by decide) ?_
                  refine lv_icmp_gt (tgt := 181) hx hb dX10_reckon_127 (by decide) (fun c48 => ?_) (fun c48 => ?_)
                  · have h49 := (kc_lt c48)
                    have b50 : kb 2 t44 15 := kr_lt2 h49 kc_1 b45 (by decide)
                    obtain ⟨x0, S1, hS1⟩ := ro_top hlt (by have w1 := (b50).1; omega) hM
                    subst hS1
                    have htop1 : y27.toInt = (S1.length : Int) + 1 := htop
                    have hx0 := (sB_c hsb).1
                    have hox := oBp_o hx0 (by omega)
                    have b51 : kb 1 y27 32 := ⟨by omega, (b32).2⟩
                    refine lv_iload hx hb dX10_reckon_181 (lv_at hl 3 rfl) ?_
                    refine lv_iconst (v := 1) hx hb dX10_reckon_183 (by decide) ?_
                    refine lv_icmp_ge (tgt := 191) hx hb dX10_reckon_184 (by decide) (fun c52 => ?_) (fun c52 => ?_)
                    · have h53 := (kc_le c52)
                      refine lv_iload hx hb dX10_reckon_191 (lv_at hl 1 rfl) ?_
                      refine lv_iconst (v := 2) hx hb dX10_reckon_193 (by decide) ?_
                      refine lv_icmp_ne (tgt := 216) hx hb dX10_reckon_194 (by decide) (fun c54 => ?_) (fun c54 => ?_)
                      · have b55 : kb 3 t44 15 := kr_nel c54 b50 kc_2 (by decide)
                        refine lv_iload hx hb dX10_reckon_216 (lv_at hl 1 rfl) ?_
                        refine lv_iconst (v := 4) hx hb dX10_reckon_218 (by decide) ?_
                        refine lv_icmp_gt (tgt := 280) hx hb dX10_reckon_219 (by decide) (fun c56 => ?_) (fun c56 => ?_)
                        · have h57 := (kc_lt c56)
                          have b58 : kb 5 t44 15 := kr_lt2 h57 kc_4 b55 (by decide)
                          obtain ⟨hj12, y0, S2, hS2⟩ := ro_two hlt (by have w1 := (b58).1; omega) hM
                          subst hS2
                          have htop2 : y27.toInt = (S2.length : Int) + 2 := by have w1 : y27.toInt = ((S2.length + 1 + 1 : Nat) : Int) := htop; omega
                          have hy0 := (sB_c (sB_c hsb).2).1
                          have hoy := oBp_o hy0 (by omega)
                          have b59 : kb 2 y27 32 := ⟨by omega, (b51).2⟩
                          refine lv_iload hx hb dX10_reckon_280 (lv_at hl 3 rfl) ?_
                          refine lv_iconst (v := 2) hx hb dX10_reckon_282 (by decide) ?_
                          refine lv_icmp_ge (tgt := 290) hx hb dX10_reckon_283 (by decide) (fun c60 => ?_) (fun c60 => ?_)
                          · have h61 := (kc_le c60)
                            refine lv_iload hx hb dX10_reckon_290 (lv_at hl 1 rfl) ?_
                            refine lv_aload hx hb dX10_reckon_292 (lv_at hl 10 rfl) ?_
                            refine lv_iload hx hb dX10_reckon_294 (lv_at hl 3 rfl) ?_
                            refine lv_iconst (v := 2) hx hb dX10_reckon_296 (by decide) ?_
                            refine lv_isub hx hb dX10_reckon_297 ?_
                            refine lv_topi (fun t62 et62 => ?_)
                            have b63 : kb 0 t62 30 := kb_eq et62 (kb_sub b59 kc_2 (by decide) (by decide))
                            have qt62 : t62.toInt = y27.toInt - 2 := by rw [et62]; exact kt_subc b59 kc_2 (by decide) (by decide)
                            refine va_lald hx hb hK hP 18 3 rfl rfl (kb_in b63 (by decide) (by decide)) dX10_reckon_298 ?_
                            refine lv_topl (fun t64 et64 => ?_)
                            have hyv : t64.toInt = y0 := by rw [et64, show t62.toNatClampNeg = S2.length from (by have w1 := qt62; unfold Int32.toNatClampNeg; omega)]; exact hst.2.1
                            refine lv_aload hx hb dX10_reckon_299 (lv_at hl 10 rfl) ?_
                            refine lv_iload hx hb dX10_reckon_301 (lv_at hl 3 rfl) ?_
                            refine lv_iconst (v := 1) hx hb dX10_reckon_303 (by decide) ?_
                            refine lv_isub hx hb dX10_reckon_304 ?_
                            refine lv_topi (fun t65 et65 => ?_)
                            have b66 : kb 1 t65 31 := kb_eq et65 (kb_sub b59 kc_1 (by decide) (by decide))
                            have qt65 : t65.toInt = y27.toInt - 1 := by rw [et65]; exact kt_subc b59 kc_1 (by decide) (by decide)
                            refine va_lald hx hb hK hP 18 3 rfl rfl (kb_in b66 (by decide) (by decide)) dX10_reckon_305 ?_
                            refine lv_topl (fun t67 et67 => ?_)
                            have hxv : t67.toInt = x0 := by rw [et67, show t65.toNatClampNeg = S2.length + 1 from (by have w1 := qt65; unfold Int32.toNatClampNeg; omega)]; exact hst.1
                            refine kNL.callS (As := [.int t44, .long t64, .long t67]) (rest := []) ⟨hx, hb, hml, hown, hg⟩ (x_10_joined l t44 t64 t67 ) (va_cwS 3 hg (kgS wt3_101 wt3_102 wt1_8 wt3_103) rfl rfl rfl (by decide +kernel) ⟨by decide, by decide⟩) hP hS rfl hl.1 rfl (Nat.le_of_ble_eq_true rfl) dX10_reckon_306 ⟨Nat.le_refl _, Nat.le_refl _⟩ (fun v69 H locs hw68 hP hS => ?_)
                            have hP : va_P D vwCl (xX K r f a G28 tx) H := hP
                            have hjo : v69.toInt = enc (jnV ((a 55 p_).toInt / 4096).toNat y0 x0) := by have w1 := hw68.2 (by have w2 := (b58).1; omega) (by omega) (by rw [hyv]; exact hoy) (by rw [hxv]; exact hox); rw [hyv, hxv, hop] at w1; exact w1
                            obtain ⟨nn, hnn⟩ : ∃ nn : Nat, (a 55 p_).toInt / 4096 = (nn : Int) := ⟨((a 55 p_).toInt / 4096).toNat, by have w1 := (b58).1; omega⟩
                            have hR0 := (rf_jn hlt hnn (by have w2 := (b58).1; omega) (by omega)).symm.trans hM
                            rw [show ((a 55 p_).toInt / 4096).toNat = nn by omega] at hjo
                            refine lv_lstore (lv' := [(11, .long v69), (10, .int t46), (9, .int t44), (8, .int y26), (7, .int y27), (6, .int t18), (5, .int t3), (0, .ref (r 51)), (1, .int cl), (2, .int pc_), (3, .ref (r 49)), (4, .ref (r 18))]) hx hb dX10_reckon_309 hl (by decide) rfl (fun ls hl => ?_)
                            refine lv_lload hx hb dX10_reckon_311 (lv_at hl 0 rfl) ?_
                            refine lv_ldc2 (v := (-1000000000000)) hx hb hown (hg _ wt3_100) dX10_reckon_313 ?_
                            refine W.lcmp hx hb dX10_reckon_316 ?_
                            refine lv_topi (fun t70 et70 => ?_)
                            refine lv_if_ne (tgt := 324) hx hb dX10_reckon_317 (by decide) (fun c71 => ?_) (fun c71 => ?_)
                            · have h72 := klc_ne (et70 ▸ c71)
                              have hjn := enc_i hjo.symm (fun q => h72 (Int64.toInt_inj.mp (q.trans (by decide +kernel))))
                              rw [hjn] at hR0
                              have hR : rk (a 55) Ws 26 m1 n30 (p_ + 1) (v69.toInt :: S2) = some (v_ Ws) := hR0
                              obtain ⟨t73, et73⟩ : ∃ z : Int32, z = y27 + Int32.ofInt (-1) := ⟨_, rfl⟩
                              have qt73 : t73.toInt = y27.toInt - 1 := by rw [et73]; exact km_dec b59 (by decide)
                              have b74 : kb 1 t73 31 := kb_inc (k := (-1)) qt73 b59
                              refine lv_iinc (v := t73) (lv' := [(7, .int t73), (11, .long v69), (10, .int t46), (9, .int t44), (8, .int y26), (6, .int t18), (5, .int t3), (0, .ref (r 51)), (1, .int cl), (2, .int pc_), (3, .ref (r 49)), (4, .ref (r 18))]) hx hb dX10_reckon_324 hl (k := 4) rfl et73.symm (by decide) rfl (fun ls hl => ?_)
                              refine lv_aload hx hb dX10_reckon_327 (lv_at hl 11 rfl) ?_
                              refine lv_iload hx hb dX10_reckon_329 (lv_at hl 0 rfl) ?_
                              refine lv_iconst (v := 1) hx hb dX10_reckon_331 (by decide) ?_
                              refine lv_isub hx hb dX10_reckon_332 ?_
                              refine lv_topi (fun t75 et75 => ?_)
                              have b76 : kb 0 t75 30 := kb_eq et75 (kb_sub b74 kc_1 (by decide) (by decide))
                              have qt75 : t75.toInt = t73.toInt - 1 := by rw [et75]; exact kt_subc b74 kc_1 (by decide) (by decide)
                              refine lv_lload hx hb dX10_reckon_333 (lv_at hl 1 rfl) ?_
                              refine va_last hx hb hK hP hD hS 18 3 rfl rfl (kb_in b76 (by decide) (by decide)) dX10_reckon_335 (fun H locs hP hD hS => ?_)
                              have hP : va_P D vwCl (xX K r f a (va_up G28.1 18 (va_up (G28.1 18) t75.toNatClampNeg v69), G28.2) tx) H := hP
                              have hD : va_D A (xX K r f a (va_up G28.1 18 (va_up (G28.1 18) t75.toNatClampNeg v69), G28.2) tx) := hD
                              refine k_gen (P := fun z => va_P D vwCl (xX K r f a z tx) H ∧ va_D A (xX K r f a z tx) ∧ (xI f a) ∧ (gOK K z.2 tt) ∧ (xEk ([], [], []) f a g f a z)) ((va_up G28.1 18 (va_up (G28.1 18) t75.toNatClampNeg v69), G28.2)) ⟨hP, hD, hI, hG, (xEk_g hE)⟩ (fun g_77 eg_77 hq => ?_)
                              obtain ⟨hP, hD, hI, hG, hE⟩ := hq
                              obtain ⟨t78, et78⟩ : ∃ z : Int32, z = y26 + Int32.ofInt 1 := ⟨_, rfl⟩
                              have qt78 : t78.toInt = y26.toInt + 1 := by rw [et78]; exact km_inc b41 (by decide) (by decide)
                              have b79 : kb 1 t78 400 := kb_inc (k := 1) qt78 b41
                              refine lv_iinc (v := t78) (lv' := [(8, .int t78), (7, .int t73), (11, .long v69), (10, .int t46), (9, .int t44), (6, .int t18), (5, .int t3), (0, .ref (r 51)), (1, .int cl), (2, .int pc_), (3, .ref (r 49)), (4, .ref (r 18))]) hx hb dX10_reckon_336 hl (k := 4) rfl et78.symm (by decide) rfl (fun ls hl => ?_)
                              refine lv_goto (tgt := 92) hx hb dX10_reckon_339 (by decide) ?_
                              exact ihlp29 (p_ + 1) (v69.toInt :: S2) g_77 _ _ _ t78 t73 (hR) hI hG hE (kb_w b79 (by decide) (by decide)) (kb_w b74 (by decide) (by decide)) (by have w1 := qt73; show _ = ((S2.length + 1 : Nat) : Int); omega) (⟨by have w1 := qt78; omega, by omega⟩) (by rw [← eg_77]; exact st_pu (by have w1 := qt75; have w2 := qt73; unfold Int32.toNatClampNeg; omega) rfl hst.2.2) (sB_i (oBp_w (jnV_o hjn) (by omega)) (sB_w (sB_c (sB_c hsb).2).2 (by omega))) (fun j hj => by rw [← eg_77]; exact hwd j hj) hP hD hS (lv_sub hl [0, 1, 5, 6, 7, 8, 9, 10, 11] rfl)
                            · have h80 := klc_eq (et70 ▸ c71)
                              have hjn := enc_nn (hjo.symm.trans (by rw [h80]; decide +kernel)) (fun x h => oBp_o (jnV_o h) (by decide))
                              rw [hjn] at hR0
                              refine lv_ldc2 (v := (-1000000000000)) hx hb hown (hg _ wt3_100) dX10_reckon_320 ?_
                              exact kL_ret (v := (-1000000000000)) hx hb hr hlocks hK hS dX10_reckon_323 (f, a, G28) hP hD ⟨(kbl_w kcl_m1000000000000 (by decide) (by decide)), hI, hG, hE, (by rw [(Option.some.inj hR0).symm]; decide +kernel), (fun z hz => by rw [(Option.some.inj hR0).symm] at hz; cases hz), hwd⟩
                          · have h81 := (kc_nle c60)
                            exact kb_no (kr_lt1 h81 b59 kc_2 (H := 1) (by decide)) (by decide)
                        · have h82 := (kc_nlt c56)
                          have b83 : kb 3 t44 4 := kr_le1 h82 b55 kc_4
                          rcases (show t44.toInt = 3 ∨ t44.toInt = 4 by have w1 := (b83).1; have w2 := (b83).2; omega) with ho | ho
                          · have b84 : kb 3 t44 3 := ⟨by omega, by omega⟩
                            refine lv_aload hx hb dX10_reckon_222 (lv_at hl 10 rfl) ?_
                            refine lv_iload hx hb dX10_reckon_224 (lv_at hl 3 rfl) ?_
                            refine lv_iconst (v := 1) hx hb dX10_reckon_226 (by decide) ?_
                            refine lv_isub hx hb dX10_reckon_227 ?_
                            refine lv_topi (fun t85 et85 => ?_)
                            have b86 : kb 0 t85 31 := kb_eq et85 (kb_sub b51 kc_1 (by decide) (by decide))
                            have qt85 : t85.toInt = y27.toInt - 1 := by rw [et85]; exact kt_subc b51 kc_1 (by decide) (by decide)
                            refine va_lald hx hb hK hP 18 3 rfl rfl (kb_in b86 (by decide) (by decide)) dX10_reckon_228 ?_
                            refine lv_topl (fun t87 et87 => ?_)
                            have hv88 : t87.toInt = x0 := by rw [et87, show t85.toNatClampNeg = S1.length from (by have w1 := qt85; unfold Int32.toNatClampNeg; omega)]; exact hst.1
                            refine lv_lconst (v := 0) hx hb dX10_reckon_229 (by decide) ?_
                            refine W.lcmp hx hb dX10_reckon_230 ?_
                            refine lv_topi (fun t89 et89 => ?_)
                            refine lv_if_eq (tgt := 238) hx hb dX10_reckon_231 (by decide) (fun c90 => ?_) (fun c90 => ?_)
                            · have h91 := klc_eq (et89 ▸ c90)
                              refine lv_iconst (v := 0) hx hb dX10_reckon_238 (by decide) ?_
                              refine lv_iload hx hb dX10_reckon_239 (lv_at hl 1 rfl) ?_
                              refine lv_iconst (v := 3) hx hb dX10_reckon_241 (by decide) ?_
                              refine lv_icmp_ne (tgt := 249) hx hb dX10_reckon_242 (by decide) (fun c92 => ?_) (fun c92 => ?_)
                              · exact kb_nsame c92 b84 kc_3
                              · refine lv_iconst (v := 1) hx hb dX10_reckon_245 (by decide) ?_
                                refine lv_goto (tgt := 250) hx hb dX10_reckon_246 (by decide) ?_
                                refine lv_icmp_ne (tgt := 274) hx hb dX10_reckon_250 (by decide) (fun c93 => ?_) (fun c93 => ?_)
                                · have hR := (rf_so hlt (by omega)).symm.trans hM
                                  rw [if_pos (by have w1 := congrArg Int64.toInt h91; have k0 : (0 : Int64).toInt = 0 := (by decide +kernel); rw [hv88, k0] at w1; exact w1)] at hR
                                  obtain ⟨t94, et94⟩ : ∃ z : Int32, z = y27 + Int32.ofInt (-1) := ⟨_, rfl⟩
                                  have qt94 : t94.toInt = y27.toInt - 1 := by rw [et94]; exact km_dec b51 (by decide)
                                  have b95 : kb 0 t94 31 := kb_inc (k := (-1)) qt94 b51
                                  refine lv_iinc (v := t94) (lv' := [(7, .int t94), (10, .int t46), (9, .int t44), (8, .int y26), (6, .int t18), (5, .int t3), (0, .ref (r 51)), (1, .int cl), (2, .int pc_), (3, .ref (r 49)), (4, .ref (r 18))]) hx hb dX10_reckon_274 hl (k := 3) rfl et94.symm (by decide) rfl (fun ls hl => ?_)
                                  refine lv_goto (tgt := 336) hx hb dX10_reckon_277 (by decide) ?_
                                  obtain ⟨t96, et96⟩ : ∃ z : Int32, z = y26 + Int32.ofInt 1 := ⟨_, rfl⟩
                                  have qt96 : t96.toInt = y26.toInt + 1 := by rw [et96]; exact km_inc b41 (by decide) (by decide)
                                  have b97 : kb 1 t96 400 := kb_inc (k := 1) qt96 b41
                                  refine lv_iinc (v := t96) (lv' := [(8, .int t96), (7, .int t94), (10, .int t46), (9, .int t44), (6, .int t18), (5, .int t3), (0, .ref (r 51)), (1, .int cl), (2, .int pc_), (3, .ref (r 49)), (4, .ref (r 18))]) hx hb dX10_reckon_336 hl (k := 3) rfl et96.symm (by decide) rfl (fun ls hl => ?_)
                                  refine lv_goto (tgt := 92) hx hb dX10_reckon_339 (by decide) ?_
                                  exact ihlp29 (p_ + 1) (S1) G28 _ _ _ t96 t94 (hR) hI hG hE (kb_w b97 (by decide) (by decide)) (kb_w b95 (by decide) (by decide)) (by have w1 := qt94; omega) (⟨by have w1 := qt96; omega, by omega⟩) (hst.2) (sB_w (sB_c hsb).2 (by omega)) (hwd) hP hD hS (lv_sub hl [0, 1, 4, 5, 6, 7, 8, 9, 10] rfl)
                                · exact kb_dj c93 kc_0 kc_1 (by decide)
                            · have h98 := klc_ne (et89 ▸ c90)
                              refine lv_iconst (v := 1) hx hb dX10_reckon_234 (by decide) ?_
                              refine lv_goto (tgt := 239) hx hb dX10_reckon_235 (by decide) ?_
                              refine lv_iload hx hb dX10_reckon_239 (lv_at hl 1 rfl) ?_
                              refine lv_iconst (v := 3) hx hb dX10_reckon_241 (by decide) ?_
                              refine lv_icmp_ne (tgt := 249) hx hb dX10_reckon_242 (by decide) (fun c99 => ?_) (fun c99 => ?_)
                              · exact kb_nsame c99 b84 kc_3
                              · refine lv_iconst (v := 1) hx hb dX10_reckon_245 (by decide) ?_
                                refine lv_goto (tgt := 250) hx hb dX10_reckon_246 (by decide) ?_
                                refine lv_icmp_ne (tgt := 274) hx hb dX10_reckon_250 (by decide) (fun c100 => ?_) (fun c100 => ?_)
                                · exact kb_nsame c100 kc_1 kc_1
                                · have hR0 := (rf_so hlt (by omega)).symm.trans hM
                                  rw [if_neg (fun q => h98 (Int64.toInt_inj.mp (by have k0 : (0 : Int64).toInt = 0 := (by decide +kernel); rw [hv88, k0]; exact q)))] at hR0
                                  obtain ⟨hja, hR⟩ := ite_some hR0
                                  have b101 : kb 1 t46 4095 := ⟨by omega, (b47).2⟩
                                  refine lv_iload hx hb dX10_reckon_253 (lv_at hl 0 rfl) ?_
                                  refine lv_iload hx hb dX10_reckon_255 (lv_at hl 2 rfl) ?_
                                  refine lv_icmp_le (tgt := 267) hx hb dX10_reckon_257 (by decide) (fun c102 => ?_) (fun c102 => ?_)
                                  · exact (by have w1 := kc_le c102; omega : False).elim
                                  · have h103 := (kc_nle c102)
                                    refine lv_iload hx hb dX10_reckon_260 (lv_at hl 0 rfl) ?_
                                    refine lv_iconst (v := 1) hx hb dX10_reckon_262 (by decide) ?_
                                    refine lv_isub hx hb dX10_reckon_263 ?_
                                    refine lv_topi (fun t104 et104 => ?_)
                                    have b105 : kb 0 t104 4094 := kb_eq et104 (kb_sub b101 kc_1 (by decide) (by decide))
                                    have qt104 : t104.toInt = t46.toInt - 1 := by rw [et104]; exact kt_subc b101 kc_1 (by decide) (by decide)
                                    refine lv_goto (tgt := 269) hx hb dX10_reckon_264 (by decide) ?_
                                    refine lv_istore (lv' := [(8, .int t104), (10, .int t46), (9, .int t44), (7, .int y27), (6, .int t18), (5, .int t3), (0, .ref (r 51)), (1, .int cl), (2, .int pc_), (3, .ref (r 49)), (4, .ref (r 18))]) hx hb dX10_reckon_269 hl (by decide) rfl (fun ls hl => ?_)
                                    refine lv_goto (tgt := 336) hx hb dX10_reckon_271 (by decide) ?_
                                    obtain ⟨t106, et106⟩ : ∃ z : Int32, z = t104 + Int32.ofInt 1 := ⟨_, rfl⟩
                                    have qt106 : t106.toInt = t104.toInt + 1 := by rw [et106]; exact km_inc b105 (by decide) (by decide)
                                    have b107 : kb 1 t106 4095 := kb_inc (k := 1) qt106 b105
                                    refine lv_iinc (v := t106) (lv' := [(8, .int t106), (10, .int t46), (9, .int t44), (7, .int y27), (6, .int t18), (5, .int t3), (0, .ref (r 51)), (1, .int cl), (2, .int pc_), (3, .ref (r 49)), (4, .ref (r 18))]) hx hb dX10_reckon_336 hl (k := 0) rfl et106.symm (by decide) rfl (fun ls hl => ?_)
                                    refine lv_goto (tgt := 92) hx hb dX10_reckon_339 (by decide) ?_
                                    exact ihlp29 (((a 55 p_).toInt % 4096).toNat) (x0 :: S1) G28 _ _ _ t106 y27 (hR) hI hG hE (kb_w b107 (by decide) (by decide)) (kb_w b51 (by decide) (by decide)) (htop) (⟨by have w1 := qt106; have w2 := qt104; omega, by omega⟩) (hst) (sB_w hsb (by omega)) (hwd) hP hD hS (lv_sub hl [0, 3, 4, 5, 6, 7, 8, 9, 10] rfl)
                          · have b108 : kb 4 t44 4 := ⟨by omega, by omega⟩
                            refine lv_aload hx hb dX10_reckon_222 (lv_at hl 10 rfl) ?_
                            refine lv_iload hx hb dX10_reckon_224 (lv_at hl 3 rfl) ?_
                            refine lv_iconst (v := 1) hx hb dX10_reckon_226 (by decide) ?_
                            refine lv_isub hx hb dX10_reckon_227 ?_
                            refine lv_topi (fun t109 et109 => ?_)
                            have b110 : kb 0 t109 31 := kb_eq et109 (kb_sub b51 kc_1 (by decide) (by decide))
                            have qt109 : t109.toInt = y27.toInt - 1 := by rw [et109]; exact kt_subc b51 kc_1 (by decide) (by decide)
                            refine va_lald hx hb hK hP 18 3 rfl rfl (kb_in b110 (by decide) (by decide)) dX10_reckon_228 ?_
                            refine lv_topl (fun t111 et111 => ?_)
                            have hv112 : t111.toInt = x0 := by rw [et111, show t109.toNatClampNeg = S1.length from (by have w1 := qt109; unfold Int32.toNatClampNeg; omega)]; exact hst.1
                            refine lv_lconst (v := 0) hx hb dX10_reckon_229 (by decide) ?_
                            refine W.lcmp hx hb dX10_reckon_230 ?_
                            refine lv_topi (fun t113 et113 => ?_)
                            refine lv_if_eq (tgt := 238) hx hb dX10_reckon_231 (by decide) (fun c114 => ?_) (fun c114 => ?_)
                            · have h115 := klc_eq (et113 ▸ c114)
                              refine lv_iconst (v := 0) hx hb dX10_reckon_238 (by decide) ?_
                              refine lv_iload hx hb dX10_reckon_239 (lv_at hl 1 rfl) ?_
                              refine lv_iconst (v := 3) hx hb dX10_reckon_241 (by decide) ?_
                              refine lv_icmp_ne (tgt := 249) hx hb dX10_reckon_242 (by decide) (fun c116 => ?_) (fun c116 => ?_)
                              · refine lv_iconst (v := 0) hx hb dX10_reckon_249 (by decide) ?_
                                refine lv_icmp_ne (tgt := 274) hx hb dX10_reckon_250 (by decide) (fun c117 => ?_) (fun c117 => ?_)
                                · exact kb_nsame c117 kc_0 kc_0
                                · have hR0 := (rf_un hlt (by omega)).symm.trans hM
                                  rw [if_pos (by have w1 := congrArg Int64.toInt h115; have k0 : (0 : Int64).toInt = 0 := (by decide +kernel); rw [hv112, k0] at w1; exact w1)] at hR0
                                  obtain ⟨hja, hR⟩ := ite_some hR0
                                  have b118 : kb 1 t46 4095 := ⟨by omega, (b47).2⟩
                                  refine lv_iload hx hb dX10_reckon_253 (lv_at hl 0 rfl) ?_
                                  refine lv_iload hx hb dX10_reckon_255 (lv_at hl 2 rfl) ?_
                                  refine lv_icmp_le (tgt := 267) hx hb dX10_reckon_257 (by decide) (fun c119 => ?_) (fun c119 => ?_)
                                  · exact (by have w1 := kc_le c119; omega : False).elim
                                  · have h120 := (kc_nle c119)
                                    refine lv_iload hx hb dX10_reckon_260 (lv_at hl 0 rfl) ?_
                                    refine lv_iconst (v := 1) hx hb dX10_reckon_262 (by decide) ?_
                                    refine lv_isub hx hb dX10_reckon_263 ?_
                                    refine lv_topi (fun t121 et121 => ?_)
                                    have b122 : kb 0 t121 4094 := kb_eq et121 (kb_sub b118 kc_1 (by decide) (by decide))
                                    have qt121 : t121.toInt = t46.toInt - 1 := by rw [et121]; exact kt_subc b118 kc_1 (by decide) (by decide)
                                    refine lv_goto (tgt := 269) hx hb dX10_reckon_264 (by decide) ?_
                                    refine lv_istore (lv' := [(8, .int t121), (10, .int t46), (9, .int t44), (7, .int y27), (6, .int t18), (5, .int t3), (0, .ref (r 51)), (1, .int cl), (2, .int pc_), (3, .ref (r 49)), (4, .ref (r 18))]) hx hb dX10_reckon_269 hl (by decide) rfl (fun ls hl => ?_)
                                    refine lv_goto (tgt := 336) hx hb dX10_reckon_271 (by decide) ?_
                                    obtain ⟨t123, et123⟩ : ∃ z : Int32, z = t121 + Int32.ofInt 1 := ⟨_, rfl⟩
                                    have qt123 : t123.toInt = t121.toInt + 1 := by rw [et123]; exact km_inc b122 (by decide) (by decide)
                                    have b124 : kb 1 t123 4095 := kb_inc (k := 1) qt123 b122
                                    refine lv_iinc (v := t123) (lv' := [(8, .int t123), (10, .int t46), (9, .int t44), (7, .int y27), (6, .int t18), (5, .int t3), (0, .ref (r 51)), (1, .int cl), (2, .int pc_), (3, .ref (r 49)), (4, .ref (r 18))]) hx hb dX10_reckon_336 hl (k := 0) rfl et123.symm (by decide) rfl (fun ls hl => ?_)
                                    refine lv_goto (tgt := 92) hx hb dX10_reckon_339 (by decide) ?_
                                    exact ihlp29 (((a 55 p_).toInt % 4096).toNat) (x0 :: S1) G28 _ _ _ t123 y27 (hR) hI hG hE (kb_w b124 (by decide) (by decide)) (kb_w b51 (by decide) (by decide)) (htop) (⟨by have w1 := qt123; have w2 := qt121; omega, by omega⟩) (hst) (sB_w hsb (by omega)) (hwd) hP hD hS (lv_sub hl [0, 3, 4, 5, 6, 7, 8, 9, 10] rfl)
                              · exact kb_dj c116 b108 kc_3 (by decide)
                            · have h125 := klc_ne (et113 ▸ c114)
                              refine lv_iconst (v := 1) hx hb dX10_reckon_234 (by decide) ?_
                              refine lv_goto (tgt := 239) hx hb dX10_reckon_235 (by decide) ?_
                              refine lv_iload hx hb dX10_reckon_239 (lv_at hl 1 rfl) ?_
                              refine lv_iconst (v := 3) hx hb dX10_reckon_241 (by decide) ?_
                              refine lv_icmp_ne (tgt := 249) hx hb dX10_reckon_242 (by decide) (fun c126 => ?_) (fun c126 => ?_)
                              · refine lv_iconst (v := 0) hx hb dX10_reckon_249 (by decide) ?_
                                refine lv_icmp_ne (tgt := 274) hx hb dX10_reckon_250 (by decide) (fun c127 => ?_) (fun c127 => ?_)
                                · have hR := (rf_un hlt (by omega)).symm.trans hM
                                  rw [if_neg (fun q => h125 (Int64.toInt_inj.mp (by have k0 : (0 : Int64).toInt = 0 := (by decide +kernel); rw [hv112, k0]; exact q)))] at hR
                                  obtain ⟨t128, et128⟩ : ∃ z : Int32, z = y27 + Int32.ofInt (-1) := ⟨_, rfl⟩
                                  have qt128 : t128.toInt = y27.toInt - 1 := by rw [et128]; exact km_dec b51 (by decide)
                                  have b129 : kb 0 t128 31 := kb_inc (k := (-1)) qt128 b51
                                  refine lv_iinc (v := t128) (lv' := [(7, .int t128), (10, .int t46), (9, .int t44), (8, .int y26), (6, .int t18), (5, .int t3), (0, .ref (r 51)), (1, .int cl), (2, .int pc_), (3, .ref (r 49)), (4, .ref (r 18))]) hx hb dX10_reckon_274 hl (k := 3) rfl et128.symm (by decide) rfl (fun ls hl => ?_)
                                  refine lv_goto (tgt := 336) hx hb dX10_reckon_277 (by decide) ?_
                                  obtain ⟨t130, et130⟩ : ∃ z : Int32, z = y26 + Int32.ofInt 1 := ⟨_, rfl⟩
                                  have qt130 : t130.toInt = y26.toInt + 1 := by rw [et130]; exact km_inc b41 (by decide) (by decide)
                                  have b131 : kb 1 t130 400 := kb_inc (k := 1) qt130 b41
                                  refine lv_iinc (v := t130) (lv' := [(8, .int t130), (7, .int t128), (10, .int t46), (9, .int t44), (6, .int t18), (5, .int t3), (0, .ref (r 51)), (1, .int cl), (2, .int pc_), (3, .ref (r 49)), (4, .ref (r 18))]) hx hb dX10_reckon_336 hl (k := 3) rfl et130.symm (by decide) rfl (fun ls hl => ?_)
                                  refine lv_goto (tgt := 92) hx hb dX10_reckon_339 (by decide) ?_
                                  exact ihlp29 (p_ + 1) (S1) G28 _ _ _ t130 t128 (hR) hI hG hE (kb_w b131 (by decide) (by decide)) (kb_w b129 (by decide) (by decide)) (by have w1 := qt128; omega) (⟨by have w1 := qt130; omega, by omega⟩) (hst.2) (sB_w (sB_c hsb).2 (by omega)) (hwd) hP hD hS (lv_sub hl [0, 1, 4, 5, 6, 7, 8, 9, 10] rfl)
                                · exact kb_dj c127 kc_1 kc_0 (by decide)
                              · exact kb_dj c126 b108 kc_3 (by decide)
                      · have b132 : kb 2 t44 2 := kb_eq c54 kc_2
                        refine lv_aload hx hb dX10_reckon_197 (lv_at hl 10 rfl) ?_
                        refine lv_iload hx hb dX10_reckon_199 (lv_at hl 3 rfl) ?_
                        refine lv_iconst (v := 1) hx hb dX10_reckon_201 (by decide) ?_
                        refine lv_isub hx hb dX10_reckon_202 ?_
                        refine lv_topi (fun t133 et133 => ?_)
                        have b134 : kb 0 t133 31 := kb_eq et133 (kb_sub b51 kc_1 (by decide) (by decide))
                        have qt133 : t133.toInt = y27.toInt - 1 := by rw [et133]; exact kt_subc b51 kc_1 (by decide) (by decide)
                        refine lv_lconst (v := 1) hx hb dX10_reckon_203 (by decide) ?_
                        refine lv_aload hx hb dX10_reckon_204 (lv_at hl 10 rfl) ?_
                        refine lv_iload hx hb dX10_reckon_206 (lv_at hl 3 rfl) ?_
                        refine lv_iconst (v := 1) hx hb dX10_reckon_208 (by decide) ?_
                        refine lv_isub hx hb dX10_reckon_209 ?_
                        refine k_top (z := t133) et133.symm ?_
                        refine va_lald hx hb hK hP 18 3 rfl rfl (kb_in b134 (by decide) (by decide)) dX10_reckon_210 ?_
                        refine lv_topl (fun t135 et135 => ?_)
                        have hv136 : t135.toInt = x0 := by rw [et135, show t133.toNatClampNeg = S1.length from (by have w1 := qt133; unfold Int32.toNatClampNeg; omega)]; exact hst.1
                        refine lv_lsub hx hb dX10_reckon_211 ?_
                        refine lv_topl (fun t137 et137 => ?_)
                        have hR := (rf_not hlt (by have w1 := (b132).1; have w2 := (b132).2; omega)).symm.trans hM
                        have hnv : t137.toInt = 1 - x0 := by have k1 : (1 : Int64).toInt = 1 := (by decide +kernel); rw [et137, l_sub (by rw [k1]; unfold oBd; omega) (by rw [hv136]; exact hox), k1, hv136]
                        refine va_last hx hb hK hP hD hS 18 3 rfl rfl (kb_in b134 (by decide) (by decide)) dX10_reckon_212 (fun H locs hP hD hS => ?_)
                        have hP : va_P D vwCl (xX K r f a (va_up G28.1 18 (va_up (G28.1 18) t133.toNatClampNeg t137), G28.2) tx) H := hP
                        have hD : va_D A (xX K r f a (va_up G28.1 18 (va_up (G28.1 18) t133.toNatClampNeg t137), G28.2) tx) := hD
                        refine k_gen (P := fun z => va_P D vwCl (xX K r f a z tx) H ∧ va_D A (xX K r f a z tx) ∧ (xI f a) ∧ (gOK K z.2 tt) ∧ (xEk ([], [], []) f a g f a z)) ((va_up G28.1 18 (va_up (G28.1 18) t133.toNatClampNeg t137), G28.2)) ⟨hP, hD, hI, hG, (xEk_g hE)⟩ (fun g_138 eg_138 hq => ?_)
                        obtain ⟨hP, hD, hI, hG, hE⟩ := hq
                        refine lv_goto (tgt := 336) hx hb dX10_reckon_213 (by decide) ?_
                        obtain ⟨t139, et139⟩ : ∃ z : Int32, z = y26 + Int32.ofInt 1 := ⟨_, rfl⟩
                        have qt139 : t139.toInt = y26.toInt + 1 := by rw [et139]; exact km_inc b41 (by decide) (by decide)
                        have b140 : kb 1 t139 400 := kb_inc (k := 1) qt139 b41
                        refine lv_iinc (v := t139) (lv' := [(8, .int t139), (10, .int t46), (9, .int t44), (7, .int y27), (6, .int t18), (5, .int t3), (0, .ref (r 51)), (1, .int cl), (2, .int pc_), (3, .ref (r 49)), (4, .ref (r 18))]) hx hb dX10_reckon_336 hl (k := 2) rfl et139.symm (by decide) rfl (fun ls hl => ?_)
                        refine lv_goto (tgt := 92) hx hb dX10_reckon_339 (by decide) ?_
                        exact ihlp29 (p_ + 1) ((1 - x0) :: S1) g_138 _ _ _ t139 y27 (hR) hI hG hE (kb_w b140 (by decide) (by decide)) (kb_w b51 (by decide) (by decide)) (htop) (⟨by have w1 := qt139; omega, by omega⟩) (by rw [← eg_138]; exact st_pu (by have w1 := qt133; unfold Int32.toNatClampNeg; omega) hnv hst.2) (sB_i (by unfold oBp at *; omega) (sB_w (sB_c hsb).2 (by omega))) (fun j hj => by rw [← eg_138]; exact hwd j hj) hP hD hS (lv_sub hl [0, 3, 4, 5, 6, 7, 8, 9, 10] rfl)
                    · have h141 := (kc_nle c52)
                      exact kb_no (kr_lt1 h141 b51 kc_1 (H := 0) (by decide)) (by decide)
                  · have h142 := (kc_nlt c48)
                    have b143 : kb 0 t44 1 := kr_le1 h142 b45 kc_1
                    rcases (show t44.toInt = 0 ∨ t44.toInt = 1 by have w1 := (b143).1; have w2 := (b143).2; omega) with ho | ho
                    · have b144 : kb 0 t44 0 := ⟨by omega, by omega⟩
                      obtain ⟨hS32, hR⟩ := ro_push hlt (by omega) hM
                      have b145 : kb 0 y27 31 := ⟨by omega, by omega⟩
                      have hck : y27.toNatClampNeg = S.length := cl_nat htop
                      refine lv_iload hx hb dX10_reckon_130 (lv_at hl 3 rfl) ?_
                      refine lv_aload hx hb dX10_reckon_132 (lv_at hl 10 rfl) ?_
                      refine va_alen (v := 32) hx hb hK hP 18 3 rfl rfl rfl dX10_reckon_134 ?_
                      refine lv_icmp_ge (tgt := 151) hx hb dX10_reckon_135 (by decide) (fun c146 => ?_) (fun c146 => ?_)
                      · have h147 := (kc_le c146)
                        exact kb_no (kr_le1 h147 kc_32 b145) (by decide)
                      · have h148 := (kc_nle c146)
                        refine lv_iload hx hb dX10_reckon_138 (lv_at hl 1 rfl) ?_
                        refine lv_iconst (v := 1) hx hb dX10_reckon_140 (by decide) ?_
                        refine lv_icmp_ne (tgt := 155) hx hb dX10_reckon_141 (by decide) (fun c149 => ?_) (fun c149 => ?_)
                        · refine lv_aload hx hb dX10_reckon_155 (lv_at hl 10 rfl) ?_
                          refine lv_iload hx hb dX10_reckon_157 (lv_at hl 3 rfl) ?_
                          refine lv_iload hx hb dX10_reckon_159 (lv_at hl 1 rfl) ?_
                          refine lv_if_ne (tgt := 170) hx hb dX10_reckon_161 (by decide) (fun c150 => ?_) (fun c150 => ?_)
                          · exact kb_nsame c150 b144 kc_0
                          · refine lv_iload hx hb dX10_reckon_164 (lv_at hl 0 rfl) ?_
                            refine lv_i2l hx hb dX10_reckon_166 rfl ?_
                            refine lv_topl (fun t151 et151 => ?_)
                            have b152 : kbl 0 t151 4095 := kbl_eq et151 (kbl_i2l b47)
                            refine lv_goto (tgt := 174) hx hb dX10_reckon_167 (by decide) ?_
                            refine va_last hx hb hK hP hD hS 18 3 rfl rfl (kb_in b145 (by decide) (by decide)) dX10_reckon_174 (fun H locs hP hD hS => ?_)
                            have hP : va_P D vwCl (xX K r f a (va_up G28.1 18 (va_up (G28.1 18) y27.toNatClampNeg t151), G28.2) tx) H := hP
                            have hD : va_D A (xX K r f a (va_up G28.1 18 (va_up (G28.1 18) y27.toNatClampNeg t151), G28.2) tx) := hD
                            refine k_gen (P := fun z => va_P D vwCl (xX K r f a z tx) H ∧ va_D A (xX K r f a z tx) ∧ (xI f a) ∧ (gOK K z.2 tt) ∧ (xEk ([], [], []) f a g f a z)) ((va_up G28.1 18 (va_up (G28.1 18) y27.toNatClampNeg t151), G28.2)) ⟨hP, hD, hI, hG, (xEk_g hE)⟩ (fun g_153 eg_153 hq => ?_)
                            obtain ⟨hP, hD, hI, hG, hE⟩ := hq
                            obtain ⟨t154, et154⟩ : ∃ z : Int32, z = y27 + Int32.ofInt 1 := ⟨_, rfl⟩
                            have qt154 : t154.toInt = y27.toInt + 1 := by rw [et154]; exact km_inc b145 (by decide) (by decide)
                            have b155 : kb 1 t154 32 := kb_inc (k := 1) qt154 b145
                            refine lv_iinc (v := t154) (lv' := [(7, .int t154), (10, .int t46), (9, .int t44), (8, .int y26), (6, .int t18), (5, .int t3), (0, .ref (r 51)), (1, .int cl), (2, .int pc_), (3, .ref (r 49)), (4, .ref (r 18))]) hx hb dX10_reckon_175 hl (k := 3) rfl et154.symm (by decide) rfl (fun ls hl => ?_)
                            refine lv_goto (tgt := 336) hx hb dX10_reckon_178 (by decide) ?_
                            obtain ⟨t156, et156⟩ : ∃ z : Int32, z = y26 + Int32.ofInt 1 := ⟨_, rfl⟩
                            have qt156 : t156.toInt = y26.toInt + 1 := by rw [et156]; exact km_inc b41 (by decide) (by decide)
                            have b157 : kb 1 t156 400 := kb_inc (k := 1) qt156 b41
                            refine lv_iinc (v := t156) (lv' := [(8, .int t156), (7, .int t154), (10, .int t46), (9, .int t44), (6, .int t18), (5, .int t3), (0, .ref (r 51)), (1, .int cl), (2, .int pc_), (3, .ref (r 49)), (4, .ref (r 18))]) hx hb dX10_reckon_336 hl (k := 3) rfl et156.symm (by decide) rfl (fun ls hl => ?_)
                            refine lv_goto (tgt := 92) hx hb dX10_reckon_339 (by decide) ?_
                            exact ihlp29 (p_ + 1) ((a 55 p_).toInt % 4096 :: S) g_153 _ _ _ t156 t154 (hR) hI hG hE (kb_w b157 (by decide) (by decide)) (kb_w b155 (by decide) (by decide)) (by have w1 := qt154; show _ = ((S.length + 1 : Nat) : Int); omega) (⟨by have w1 := qt156; omega, by omega⟩) (by rw [← eg_153]; exact st_pu hck (by rw [et151]; exact (kt_i2l _).trans har) hst) (sB_i (by unfold oBp; omega) (sB_w hsb (by omega))) (fun j hj => by rw [← eg_153]; exact hwd j hj) hP hD hS (lv_sub hl [0, 1, 4, 5, 6, 7, 8, 9, 10] rfl)
                        · exact kb_dj c149 b144 kc_1 (by decide)
                    · have b158 : kb 1 t44 1 := ⟨by omega, by omega⟩
                      obtain ⟨hS32, hwi, hR⟩ := ro_ask hlt (by omega) hM
                      have b159 : kb 0 y27 31 := ⟨by omega, by omega⟩
                      have b160 : kb 0 t46 25 := ⟨by omega, by omega⟩
                      have hck : y27.toNatClampNeg = S.length := cl_nat htop
                      refine lv_iload hx hb dX10_reckon_130 (lv_at hl 3 rfl) ?_
                      refine lv_aload hx hb dX10_reckon_132 (lv_at hl 10 rfl) ?_
                      refine va_alen (v := 32) hx hb hK hP 18 3 rfl rfl rfl dX10_reckon_134 ?_
                      refine lv_icmp_ge (tgt := 151) hx hb dX10_reckon_135 (by decide) (fun c161 => ?_) (fun c161 => ?_)
                      · have h162 := (kc_le c161)
                        exact kb_no (kr_le1 h162 kc_32 b159) (by decide)
                      · have h163 := (kc_nle c161)
                        refine lv_iload hx hb dX10_reckon_138 (lv_at hl 1 rfl) ?_
                        refine lv_iconst (v := 1) hx hb dX10_reckon_140 (by decide) ?_
                        refine lv_icmp_ne (tgt := 155) hx hb dX10_reckon_141 (by decide) (fun c164 => ?_) (fun c164 => ?_)
                        · exact kb_nsame c164 b158 kc_1
                        · refine lv_iload hx hb dX10_reckon_144 (lv_at hl 0 rfl) ?_
                          refine lv_aload_n hx hb dX10_reckon_146 rfl (lv_at hl 9 rfl) ?_
                          refine va_alen (v := 26) hx hb hK hP 49 3 rfl rfl rfl dX10_reckon_147 ?_
                          refine lv_icmp_lt (tgt := 155) hx hb dX10_reckon_148 (by decide) (fun c165 => ?_) (fun c165 => ?_)
                          · have h166 := (kc_lt c165)
                            refine lv_aload hx hb dX10_reckon_155 (lv_at hl 10 rfl) ?_
                            refine lv_iload hx hb dX10_reckon_157 (lv_at hl 3 rfl) ?_
                            refine lv_iload hx hb dX10_reckon_159 (lv_at hl 1 rfl) ?_
                            refine lv_if_ne (tgt := 170) hx hb dX10_reckon_161 (by decide) (fun c167 => ?_) (fun c167 => ?_)
                            · refine lv_aload_n hx hb dX10_reckon_170 rfl (lv_at hl 9 rfl) ?_
                              refine lv_iload hx hb dX10_reckon_171 (lv_at hl 0 rfl) ?_
                              refine va_lald hx hb hK hP 49 3 rfl rfl (kb_in b160 (by decide) (by decide)) dX10_reckon_173 ?_
                              refine lv_topl (fun t168 et168 => ?_)
                              refine va_last hx hb hK hP hD hS 18 3 rfl rfl (kb_in b159 (by decide) (by decide)) dX10_reckon_174 (fun H locs hP hD hS => ?_)
                              have hP : va_P D vwCl (xX K r f a (va_up G28.1 18 (va_up (G28.1 18) y27.toNatClampNeg t168), G28.2) tx) H := hP
                              have hD : va_D A (xX K r f a (va_up G28.1 18 (va_up (G28.1 18) y27.toNatClampNeg t168), G28.2) tx) := hD
                              refine k_gen (P := fun z => va_P D vwCl (xX K r f a z tx) H ∧ va_D A (xX K r f a z tx) ∧ (xI f a) ∧ (gOK K z.2 tt) ∧ (xEk ([], [], []) f a g f a z)) ((va_up G28.1 18 (va_up (G28.1 18) y27.toNatClampNeg t168), G28.2)) ⟨hP, hD, hI, hG, (xEk_g hE)⟩ (fun g_169 eg_169 hq => ?_)
                              obtain ⟨hP, hD, hI, hG, hE⟩ := hq
                              obtain ⟨t170, et170⟩ : ∃ z : Int32, z = y27 + Int32.ofInt 1 := ⟨_, rfl⟩
                              have qt170 : t170.toInt = y27.toInt + 1 := by rw [et170]; exact km_inc b159 (by decide) (by decide)
                              have b171 : kb 1 t170 32 := kb_inc (k := 1) qt170 b159
                              refine lv_iinc (v := t170) (lv' := [(7, .int t170), (10, .int t46), (9, .int t44), (8, .int y26), (6, .int t18), (5, .int t3), (0, .ref (r 51)), (1, .int cl), (2, .int pc_), (3, .ref (r 49)), (4, .ref (r 18))]) hx hb dX10_reckon_175 hl (k := 3) rfl et170.symm (by decide) rfl (fun ls hl => ?_)
                              refine lv_goto (tgt := 336) hx hb dX10_reckon_178 (by decide) ?_
                              obtain ⟨t172, et172⟩ : ∃ z : Int32, z = y26 + Int32.ofInt 1 := ⟨_, rfl⟩
                              have qt172 : t172.toInt = y26.toInt + 1 := by rw [et172]; exact km_inc b41 (by decide) (by decide)
                              have b173 : kb 1 t172 400 := kb_inc (k := 1) qt172 b41
                              refine lv_iinc (v := t172) (lv' := [(8, .int t172), (7, .int t170), (10, .int t46), (9, .int t44), (6, .int t18), (5, .int t3), (0, .ref (r 51)), (1, .int cl), (2, .int pc_), (3, .ref (r 49)), (4, .ref (r 18))]) hx hb dX10_reckon_336 hl (k := 3) rfl et172.symm (by decide) rfl (fun ls hl => ?_)
                              refine lv_goto (tgt := 92) hx hb dX10_reckon_339 (by decide) ?_
                              exact ihlp29 (p_ + 1) (Ws ((a 55 p_).toInt % 4096).toNat :: S) g_169 _ _ _ t172 t170 (hR) hI hG hE (kb_w b173 (by decide) (by decide)) (kb_w b171 (by decide) (by decide)) (by have w1 := qt170; show _ = ((S.length + 1 : Nat) : Int); omega) (⟨by have w1 := qt172; omega, by omega⟩) (by rw [← eg_169]; exact st_pu hck (by rw [et168, show t46.toNatClampNeg = ((a 55 p_).toInt % 4096).toNat from (by unfold Int32.toNatClampNeg; omega)]; exact hwd _ (by omega)) hst) (sB_i (oBp_w (hp5 _) (by omega)) (sB_w hsb (by omega))) (fun j hj => by rw [← eg_169]; exact hwd j hj) hP hD hS (lv_sub hl [0, 1, 4, 5, 6, 7, 8, 9, 10] rfl)
                            · exact kb_dj c167 b158 kc_0 (by decide)
                          · have h174 := (kc_nlt c165)
                            exact kb_no (kr_le1 h174 kc_26 b160) (by decide)
            exact lp29 (f0) m0 [] g _ _ _ t13 0 (hf0) hI hG hE (kb_w b24 (by decide) (by decide)) (kb_w kc_0 (by decide) (by decide)) (by decide +kernel) (⟨hm0, by omega⟩) (trivial) (fun x hx => absurd hx List.not_mem_nil) (hp4) hP hD hS (lv_sub hl [0, 1, 2, 3, 4, 5, 6, 7, 8] rfl)
          · have h175 := (kc_nlt c22)
            have hve : v_ = e1 := pc_eq hp3 (by have w1 := kc_nlt c22; omega)
            refine lv_lconst (v := 1) hx hb dX10_reckon_78 (by decide) ?_
            exact kL_ret (v := 1) hx hb hr hlocks hK hS dX10_reckon_79 (f, a, g) hP hD ⟨(kbl_w kcl_1 (by decide) (by decide)), hI, hG, hE, (by rw [hve]; show (1 : Int64).toInt = enc (some 1); decide +kernel), (fun z hz => by rw [hve] at hz; have w1 := Option.some.inj hz; unfold oBd; omega), hp4⟩
        · exact (by have w1 := kc_nle c20; have w2 : (400 : Int32).toInt = 400 := (by decide +kernel); omega : False).elim
