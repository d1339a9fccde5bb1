abbrev xG : Type := (Nat → Nat → Int64) × (Nat → Nat → Option Nat)
abbrev xS : Type := (Nat → Int32) × (Nat → Nat → Int32) × xG
/-- the class's cells, in the order in which they are made -/
def xW (K : Nat → ClassId) (r : Nat → Nat) (f : Nat → Int32) (a : Nat → Nat → Int32) (g : xG) : va_W := [
  (r 0, .inr (11, [.ref (r 1), .ref (r 22), .ref (r 24), .ref (r 25), .ref (r 50), .ref (r 58), .ref (r 80), .ref (r 87), .ref (r 89), .ref (r 92), .ref (r 93), .ref (r 94), .int (f 12), .int (f 13), .int (f 14), .int (f 15), .int (f 16)])),
  (r 1, .inr (7, [.int (f 32), .ref (r 2), .ref (r 3), .ref (r 4), .ref (r 5), .ref (r 6), .int (f 38), .ref (r 7), .ref (r 8), .ref (r 9), .ref (r 10), .ref (r 11), .int (f 44), .ref (r 12), .ref (r 13), .ref (r 14), .ref (r 15), .int (f 49), .int (f 50), .ref (r 16)])),
  (r 2, .inl (K 0, 10, .inl (a 2))),
  (r 3, .inl (K 0, 10, .inl (a 3))),
  (r 4, .inl (K 0, 10, .inl (a 4))),
  (r 5, .inl (K 0, 10, .inl (a 5))),
  (r 6, .inl (K 0, 10, .inl (a 6))),
  (r 7, .inl (K 0, 6, .inl (a 7))),
  (r 8, .inl (K 0, 6, .inl (a 8))),
  (r 9, .inl (K 0, 6, .inl (a 9))),
  (r 10, .inl (K 0, 6, .inl (a 10))),
  (r 11, .inl (K 0, 4, .inl (a 11))),
  (r 12, .inl (K 0, 8, .inl (a 12))),
  (r 13, .inl (K 0, 8, .inl (a 13))),
  (r 14, .inl (K 0, 8, .inl (a 14))),
  (r 15, .inl (K 5, 6, .inr (.inr (.inr (.inr (g.2 15)))))),
  (r 16, .inr (8, [.ref (r 17), .ref (r 18), .ref (r 19), .ref (r 20), .ref (r 21)])),
  (r 17, .inl (K 3, 10, .inr (.inl (g.1 17)))),
  (r 18, .inl (K 3, 32, .inr (.inl (g.1 18)))),
  (r 19, .inl (K 0, 6, .inl (a 19))),
  (r 20, .inl (K 0, 6, .inl (a 20))),
  (r 21, .inl (K 0, 10, .inl (a 21))),
  (r 22, .inr (2, [.int (f 704), .int (f 705), .ref (r 23)])),
  (r 23, .inl (K 0, 384, .inl (a 23))),
  (r 24, .inr (0, [.ref (r 1), .ref (r 22)])),
  (r 25, .inr (5, [.ref (r 1), .ref (r 22), .ref (r 24), .ref (r 26), .ref (r 47), .ref (r 49), .int (f 806), .int (f 807)])),
  (r 26, .inr (7, [.int (f 832), .ref (r 27), .ref (r 28), .ref (r 29), .ref (r 30), .ref (r 31), .int (f 838), .ref (r 32), .ref (r 33), .ref (r 34), .ref (r 35), .ref (r 36), .int (f 844), .ref (r 37), .ref (r 38), .ref (r 39), .ref (r 40), .int (f 849), .int (f 850), .ref (r 41)])),
  (r 27, .inl (K 0, 10, .inl (a 27))),
  (r 28, .inl (K 0, 10, .inl (a 28))),
  (r 29, .inl (K 0, 10, .inl (a 29))),
  (r 30, .inl (K 0, 10, .inl (a 30))),
  (r 31, .inl (K 0, 10, .inl (a 31))),
  (r 32, .inl (K 0, 6, .inl (a 32))),
  (r 33, .inl (K 0, 6, .inl (a 33))),
  (r 34, .inl (K 0, 6, .inl (a 34))),
  (r 35, .inl (K 0, 6, .inl (a 35))),
  (r 36, .inl (K 0, 4, .inl (a 36))),
  (r 37, .inl (K 0, 8, .inl (a 37))),
  (r 38, .inl (K 0, 8, .inl (a 38))),
  (r 39, .inl (K 0, 8, .inl (a 39))),
  (r 40, .inl (K 5, 6, .inr (.inr (.inr (.inr (g.2 40)))))),
  (r 41, .inr (8, [.ref (r 42), .ref (r 43), .ref (r 44), .ref (r 45), .ref (r 46)])),
  (r 42, .inl (K 3, 10, .inr (.inl (g.1 42)))),
  (r 43, .inl (K 3, 32, .inr (.inl (g.1 43)))),
  (r 44, .inl (K 0, 6, .inl (a 44))),
  (r 45, .inl (K 0, 6, .inl (a 45))),
  (r 46, .inl (K 0, 10, .inl (a 46))),
  (r 47, .inr (2, [.int (f 1504), .int (f 1505), .ref (r 48)])),
  (r 48, .inl (K 0, 384, .inl (a 48))),
  (r 49, .inl (K 3, 26, .inr (.inl (g.1 49)))),
  (r 50, .inr (4, [.ref (r 51), .ref (r 56), .ref (r 57), .int (f 1603), .int (f 1604), .int (f 1605), .int (f 1606)])),
  (r 51, .inr (10, [.int (f 1632), .ref (r 52), .ref (r 53), .ref (r 54), .ref (r 55), .int (f 1637)])),
  (r 52, .inl (K 0, 12, .inl (a 52))),
  (r 53, .inl (K 0, 12, .inl (a 53))),
  (r 54, .inl (K 0, 37, .inl (a 54))),
  (r 55, .inl (K 0, 400, .inl (a 55))),
  (r 56, .inl (K 0, 401, .inl (a 56))),
  (r 57, .inl (K 0, 401, .inl (a 57))),
  (r 58, .inr (3, [.ref (r 59), .ref (r 1), .int (f 1858), .int (f 1859)])),
  (r 59, .inr (7, [.int (f 1888), .ref (r 60), .ref (r 61), .ref (r 62), .ref (r 63), .ref (r 64), .int (f 1894), .ref (r 65), .ref (r 66), .ref (r 67), .ref (r 68), .ref (r 69), .int (f 1900), .ref (r 70), .ref (r 71), .ref (r 72), .ref (r 73), .int (f 1905), .int (f 1906), .ref (r 74)])),
  (r 60, .inl (K 0, 10, .inl (a 60))),
  (r 61, .inl (K 0, 10, .inl (a 61))),
  (r 62, .inl (K 0, 10, .inl (a 62))),
  (r 63, .inl (K 0, 10, .inl (a 63))),
  (r 64, .inl (K 0, 10, .inl (a 64))),
  (r 65, .inl (K 0, 6, .inl (a 65))),
  (r 66, .inl (K 0, 6, .inl (a 66))),
  (r 67, .inl (K 0, 6, .inl (a 67))),
  (r 68, .inl (K 0, 6, .inl (a 68))),
  (r 69, .inl (K 0, 4, .inl (a 69))),
  (r 70, .inl (K 0, 8, .inl (a 70))),
  (r 71, .inl (K 0, 8, .inl (a 71))),
  (r 72, .inl (K 0, 8, .inl (a 72))),
  (r 73, .inl (K 5, 6, .inr (.inr (.inr (.inr (g.2 73)))))),
  (r 74, .inr (8, [.ref (r 75), .ref (r 76), .ref (r 77), .ref (r 78), .ref (r 79)])),
  (r 75, .inl (K 3, 10, .inr (.inl (g.1 75)))),
  (r 76, .inl (K 3, 32, .inr (.inl (g.1 76)))),
  (r 77, .inl (K 0, 6, .inl (a 77))),
  (r 78, .inl (K 0, 6, .inl (a 78))),
  (r 79, .inl (K 0, 10, .inl (a 79))),
  (r 80, .inr (9, [.ref (r 1), .ref (r 58), .ref (r 81), .ref (r 82), .ref (r 83), .int (f 2565), .int (f 2566), .ref (r 84), .ref (r 85), .ref (r 86)])),
  (r 81, .inl (K 0, 11, .inl (a 81))),
  (r 82, .inl (K 0, 11, .inl (a 82))),
  (r 83, .inl (K 0, 704, .inl (a 83))),
  (r 84, .inl (K 0, 3, .inl (a 84))),
  (r 85, .inl (K 2, 64, .inl (a 85))),
  (r 86, .inl (K 0, 11, .inl (a 86))),
  (r 87, .inr (6, [.ref (r 1), .ref (r 88), .int (f 2786)])),
  (r 88, .inl (K 0, 1024, .inl (a 88))),
  (r 89, .inr (1, [.ref (r 58), .int (f 2849), .int (f 2850), .ref (r 90), .ref (r 91)])),
  (r 90, .inl (K 0, 10, .inl (a 90))),
  (r 91, .inl (K 0, 6, .inl (a 91))),
  (r 92, .inl (K 4, 2, .inr (.inr (.inr (.inr (g.2 92)))))),
  (r 93, .inl (K 1, 400, .inl (a 93))),
  (r 94, .inl (K 0, 5, .inl (a 94)))]
theorem vpz0 : vp_nar .boolean 0 = 0 := by decide +kernel
theorem vpz1 : vp_nar .boolean 1 = 1 := by decide +kernel
theorem xge2 {x : Int32} (h0 : ¬ x = 0) (h1 : ¬ x = 1) (h : ¬ x < 0) : ¬ x < 2 := by
  have g0 := lv_neT h0 (a := 0) (by decide +kernel)
  have g1 := lv_neT h1 (a := 1) (by decide +kernel)
  rw [Int32.lt_iff_toInt_lt] at *
  have e0 : (0 : Int32).toInt = 0 := by decide +kernel
  have e2 : (2 : Int32).toInt = 2 := by decide +kernel
  omega
theorem xgt2 {x : Int32} (h0 : ¬ x = 0) (h1 : ¬ x = 1) (h2 : ¬ x = 2) (h : ¬ x < 0) : 2 < x := by
  have g0 := lv_neT h0 (a := 0) (by decide +kernel)
  have g1 := lv_neT h1 (a := 1) (by decide +kernel)
  have g2 := lv_neT h2 (a := 2) (by decide +kernel)
  rw [Int32.lt_iff_toInt_lt] at *
  have e0 : (0 : Int32).toInt = 0 := by decide +kernel
  have e2 : (2 : Int32).toInt = 2 := by decide +kernel
  omega
theorem xN {y : Int32} (h1 : ¬ y < 1) (h2 : y ≤ 20) : ∃ N : Nat, N ≤ 20 ∧ y = nI N := by
  have hn : ¬ y < 0 := by
    intro q
    apply h1
    rw [Int32.lt_iff_toInt_lt] at *
    have e0 : (0 : Int32).toInt = 0 := by decide +kernel
    have e1 : (1 : Int32).toInt = 1 := by decide +kernel
    omega
  exact nI_of2 (M := 20) (n := 20) (by decide +kernel) hn h2
theorem xc_a {x : Int32} (h7 : ¬ x = 7) (h8 : ¬ x = 8) (h9 : ¬ x = 9) (h10 : ¬ x = 10) (h11 : ¬ x = 11) (h : ¬ x < 7) : 11 < x := by
  have g7 := lv_neT h7 (a := 7) (by decide +kernel)
  have g8 := lv_neT h8 (a := 8) (by decide +kernel)
  have g9 := lv_neT h9 (a := 9) (by decide +kernel)
  have g10 := lv_neT h10 (a := 10) (by decide +kernel)
  have g11 := lv_neT h11 (a := 11) (by decide +kernel)
  rw [Int32.lt_iff_toInt_lt] at *
  have e0 : (7 : Int32).toInt = 7 := by decide +kernel
  have e2 : (11 : Int32).toInt = 11 := by decide +kernel
  omega
theorem xc_b {x : Int32} (h7 : ¬ x = 13) (h8 : ¬ x = 14) (h9 : ¬ x = 15) (h10 : ¬ x = 16) (h : ¬ x < 13) : 16 < x := by
  have g7 := lv_neT h7 (a := 13) (by decide +kernel)
  have g8 := lv_neT h8 (a := 14) (by decide +kernel)
  have g9 := lv_neT h9 (a := 15) (by decide +kernel)
  have g10 := lv_neT h10 (a := 16) (by decide +kernel)
  rw [Int32.lt_iff_toInt_lt] at *
  have e0 : (13 : Int32).toInt = 13 := by decide +kernel
  have e2 : (16 : Int32).toInt = 16 := by decide +kernel
  omega
theorem and_m1 (y : Int32) : y &&& (-1) = y := by
  apply Int32.toBitVec_inj.mp
  show y.toBitVec &&& (-1 : Int32).toBitVec = y.toBitVec
  have : (-1 : Int32).toBitVec = BitVec.allOnes 32 := by decide +kernel
  rw [this, BitVec.and_allOnes]
/-- what a new object takes as a part, as a builder -/
def xPartOk (x y z w : Int32) : Prop := y = 0 ∧ ¬ x < 1 ∧ ¬ 99 < x ∧ ¬ z < 0 ∧ ¬ 4 ≤ z ∧ ¬ w < 0 ∧ w ≤ 9
def xBldOk (x y : Int32) : Prop := ¬ x < 1 ∧ ¬ 15 < x ∧ ¬ y < 1 ∧ y ≤ 9
set_option maxHeartbeats 4000000 in
set_option maxRecDepth 100000 in
/-- Arrays.fill -/
theorem x_fill (l : Launch) {D : va_G} {K : Nat → ClassId} (q n : Nat) (b : Nat → Int32) (v : Int32) (hn : n < 2 ^ 31) : kV l yJ7_fill_53178 (Cond.code yJ7_fill_53178 cJ7_fill_53178 4 none :: kG) (rmD 1 0 0) D (tysK K) [.ref q, .int v] [(q, .inl (K 0, n, .inl b))] (fun (u : Nat → Int32) => ∀ j, j < n → u j = v) (fun u => [(q, .inl (K 0, n, .inl u))]) 0 0 := by
  refine kV.of (cc := cJ7_fill_53178) (maxL := 4) (ret := none) (by decide) rfl (Nat.le_of_ble_eq_true rfl) ?_
  intro p e s m below meth c A hx hb hr hml hown hts hlocks hnm hK hP hD hS hA ls hl
  have hl : lv_has ls 4 [(0, .ref q), (1, .int v)] := hl
  refine lv_iconst (v := 0) hx hb dJ7_fill_53178_0 (by decide) ?_
  refine lv_istore_n (lv' := [(2, .int 0), (0, .ref q), (1, .int v)]) hx hb dJ7_fill_53178_1 rfl hl (by decide) rfl (fun ls hl => ?_)
  refine lv_aload_n hx hb dJ7_fill_53178_2 rfl (lv_at hl 1 rfl) ?_
  refine va_alen (v := nI n) hx hb hK hP 0 0 rfl rfl rfl dJ7_fill_53178_3 ?_
  refine lv_istore_n (lv' := [(3, .int (nI n)), (2, .int 0), (0, .ref q), (1, .int v)]) hx hb dJ7_fill_53178_4 rfl hl (by decide) rfl (fun ls hl => ?_)
  have lp : ∀ (k i : Nat) (B : Nat → Int32) (H : Heap) (locs : List Loc) (ls : Array Slot), i + k = n → (∀ j, j < i → B j = v) → va_P D vwCl [(q, .inl (K 0, n, .inl B))] H → va_D A [(q, .inl (K 0, n, .inl B))] → va_S A s.heap H locs → lv_has ls 4 [(3, .int (nI n)), (2, .int (nI i)), (0, .ref q), (1, .int v)] → W p l e (rmD 1 0 0) s m ([.ref q, .int v] : List Value).toArray below meth c H locs 0 0 (kQv D (tysK K) (fun (u : Nat → Int32) => ∀ j, j < n → u j = v) (fun u => [(q, .inl (K 0, n, .inl u))]) A below ([.ref q, .int v] : List Value).toArray s 0 0) (F0 m 5 ls []) := by
    intro k
    induction k with
    | zero =>
      intro i B H locs ls hin zi hP hD hS hl
      obtain rfl : n = i := by omega
      refine lv_iload_n hx hb dJ7_fill_53178_5 rfl (lv_at hl 1 rfl) ?_
      refine lv_iload_n hx hb dJ7_fill_53178_6 rfl (lv_at hl 0 rfl) ?_
      refine lv_icmp_ge (tgt := 20) hx hb dJ7_fill_53178_7 (by decide) (fun c1 => ?_) (fun c1 => absurd (nI_le (Nat.le_refl n) hn) c1)
      exact kV_ret hx hb hr hlocks hK hS dJ7_fill_53178_20 B hP hD zi
    | succ k ih =>
      intro i B H locs ls hin zi hP hD hS hl
      have hlt : i < n := by omega
      refine lv_iload_n hx hb dJ7_fill_53178_5 rfl (lv_at hl 1 rfl) ?_
      refine lv_iload_n hx hb dJ7_fill_53178_6 rfl (lv_at hl 0 rfl) ?_
      refine lv_icmp_ge (tgt := 20) hx hb dJ7_fill_53178_7 (by decide) (fun c1 => absurd c1 (nI_ge hlt hn)) (fun c1 => ?_)
      refine lv_aload_n hx hb dJ7_fill_53178_10 rfl (lv_at hl 2 rfl) ?_
      refine lv_iload_n hx hb dJ7_fill_53178_11 rfl (lv_at hl 1 rfl) ?_
      refine lv_iload_n hx hb dJ7_fill_53178_12 rfl (lv_at hl 3 rfl) ?_
      refine va_iast hx hb hK hP hD hS 0 0 rfl rfl (vp_in_nI hlt hn) dJ7_fill_53178_13 (fun H locs hP hD hS => ?_)
      rw [nI_clamp (n := i) (by omega)] at hP hD
      have hP : va_P D vwCl [(q, .inl (K 0, n, .inl (upd B i v)))] H := hP
      have hD : va_D A [(q, .inl (K 0, n, .inl (upd B i v)))] := hD
      refine lv_iinc (v := nI (i + 1)) (lv' := [(2, .int (nI (i + 1))), (3, .int (nI n)), (0, .ref q), (1, .int v)]) hx hb dJ7_fill_53178_14 hl (k := 1) rfl (nI_1 _) (by decide) rfl (fun ls hl => ?_)
      refine lv_goto (tgt := 5) hx hb dJ7_fill_53178_17 (by decide) ?_
      refine ih (i + 1) (upd B i v) _ _ _ (by omega) ?_ hP hD hS (lv_sub hl [1, 0, 2, 3] rfl)
      intro j hj
      by_cases e : j = i
      · rw [e]; exact pk_us
      · rw [pk_un e]; exact zi j (by omega)
  exact lp (n - 0) 0 b _ _ _ (by omega) (fun j hj => absurd hj (Nat.not_lt_zero j)) hP hD hS hl

theorem cl_11 : (11 : Int32).toNatClampNeg = 11 := by decide +kernel
theorem cl_12 : (12 : Int32).toNatClampNeg = 12 := by decide +kernel
theorem cl_13 : (13 : Int32).toNatClampNeg = 13 := by decide +kernel
theorem cl_14 : (14 : Int32).toNatClampNeg = 14 := by decide +kernel
theorem cl_15 : (15 : Int32).toNatClampNeg = 15 := by decide +kernel
theorem cl_17 : (17 : Int32).toNatClampNeg = 17 := by decide +kernel
theorem cl_18 : (18 : Int32).toNatClampNeg = 18 := by decide +kernel
theorem cl_19 : (19 : Int32).toNatClampNeg = 19 := by decide +kernel
