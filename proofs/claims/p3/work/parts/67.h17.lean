/-! the class's reading lays code: what it leaves -/
def wN (o : Bool) : Nat := if o = true then 26 else 10
theorem opC_b (t : Int32) : 5 ≤ opC t ∧ opC t ≤ 12 := by
  unfold opC
  repeat' split
  all_goals decide
theorem n_and {m : Nat} (h : m < 4096) : nI m &&& 4095 = nI m := by
  have h2 : m < 2 ^ 32 := Nat.lt_trans h (by decide)
  apply Int32.toBitVec_inj.mp
  apply BitVec.eq_of_toNat_eq
  rw [Int32.toBitVec_and, BitVec.toNat_and, kn_bv h2]
  have e : (4095 : Int32).toBitVec.toNat = 2 ^ 12 - 1 := by decide +kernel
  rw [e, Nat.and_two_pow_sub_one_eq_mod]
  exact Nat.mod_eq_of_lt h
theorem n_or {n m : Nat} (hn : n ≤ 12) (h : m < 4096) : nI (n * 2 ^ 12) ||| nI m = nI (n * 2 ^ 12 + m) := by
  have e12 : (2 : Nat) ^ 12 = 4096 := by decide
  have h1 : n * 2 ^ 12 < 2 ^ 32 := Nat.lt_of_lt_of_le (show n * 2 ^ 12 < 65536 from by omega) (by decide)
  have h2 : m < 2 ^ 32 := Nat.lt_of_lt_of_le (show m < 65536 from by omega) (by decide)
  have hh : n * 2 ^ 12 ≤ 49152 := by omega
  have hm6 : 49152 + m < 65536 := by omega
  have h3 : n * 2 ^ 12 + m < 2 ^ 32 := Nat.lt_of_le_of_lt (Nat.add_le_add_right hh m) (Nat.lt_of_lt_of_le hm6 (by decide))
  apply Int32.toBitVec_inj.mp
  apply BitVec.eq_of_toNat_eq
  rw [Int32.toBitVec_or, BitVec.toNat_or, kn_bv h1, kn_bv h2, kn_bv h3, Nat.mul_comm n, ← Nat.two_pow_add_eq_or_of_lt (show m < 2 ^ 12 from h)]
theorem em_v {op x : Int32} (ho : kb 0 op 12) (hx : kb 0 x 4095) : ((op <<< ((12 : Int32) &&& 31)) ||| (x &&& 4095)).toInt = 4096 * op.toInt + x.toInt := by
  obtain ⟨n, e, hn, hl⟩ := kn_nat ho (by decide)
  obtain ⟨m, e2, hm, hl2⟩ := kn_nat hx (by decide)
  have o2 := ho.2
  have x2 := hx.2
  have e12 : (2 : Nat) ^ 12 = 4096 := by decide
  have h1 : n * 2 ^ 12 < 2 ^ 32 := Nat.lt_of_lt_of_le (show n * 2 ^ 12 < 65536 from by omega) (by decide)
  have hh : n * 2 ^ 12 ≤ 49152 := by omega
  have hm6 : 49152 + m < 65536 := by omega
  have h3 : n * 2 ^ 12 + m < 2 ^ 31 := Nat.lt_of_le_of_lt (Nat.add_le_add_right hh m) (Nat.lt_of_lt_of_le hm6 (by decide))
  rw [e, e2, pk_shlN (n := n) _ 12 (by decide +kernel) h1, n_and (by omega), n_or (by omega) (by omega), kn_to h3, kn_to hl, kn_to hl2, e12]
  omega
theorem ld_v {x s : Int32} {b : Nat} (hx : x.toInt = 4096 * (b : Int)) (hb : b ≤ 12) (hs : kb 0 s 400) : ((x &&& (-4096)) ||| (s &&& 4095)).toInt = x.toInt + s.toInt := by
  obtain ⟨n, e, hn, hl⟩ := kn_nat (x := x) (l := 0) (h := 50000) ⟨by omega, by omega⟩ (by decide)
  obtain ⟨m, e2, hm, hl2⟩ := kn_nat hs (by decide)
  have s2 := hs.2
  have e12 : (2 : Nat) ^ 12 = 4096 := by decide
  have en : n = b * 2 ^ 12 := by rw [e12]; omega
  have hh : b * 2 ^ 12 ≤ 49152 := by omega
  have hm6 : 49152 + m < 65536 := by omega
  have h3 : b * 2 ^ 12 + m < 2 ^ 31 := Nat.lt_of_le_of_lt (Nat.add_le_add_right hh m) (Nat.lt_of_lt_of_le hm6 (by decide))
  have h4 : b * 2 ^ 12 < 2 ^ 31 := Nat.lt_of_le_of_lt hh (by decide)
  have e5 : ∀ b < 13, nI (b * 2 ^ 12) &&& (-4096) = nI (b * 2 ^ 12) := by decide +kernel
  rw [e, e2, en, n_and (by omega), e5 b (by omega), n_or hb (by omega), kn_to h3, kn_to h4, kn_to hl2]
  omega
/-- an operation is emitted, or none -/
def emP (op : Int32) (c c' : Nat → Int32) (s s' : Nat) : Prop := (op = -1 ∧ s' = s ∧ c' = c) ∨ (¬ op = -1 ∧ s' = s + 1 ∧ (c' s).toInt = 4096 * op.toInt ∧ ∀ p, ¬ p = s → c' p = c p)
/-- a skip lands, or there is none -/
def ldP (x : Int32) (c c' : Nat → Int32) (s : Nat) : Prop := (x = -1 ∧ c' = c) ∨ (¬ x = -1 ∧ ∀ k : Nat, x.toInt = (k : Int) → (c' k).toInt = (c k).toInt + (s : Int) ∧ ∀ p, ¬ p = k → c' p = c p)
def ldQ (x : Int32) (c : Nat → Int32) (s : Nat) : Prop := x = -1 ∨ ∃ k b : Nat, x.toInt = (k : Int) ∧ k < s ∧ (c k).toInt = 4096 * (b : Int) ∧ b ≤ 12
/-- a piece was read: its code -/
def cdP (ob : Bool) (T : Nat → Int32) (d K i i2 s0 : Nat) (c c' : Nat → Int32) (sz : Int32) (nd : Nat) : Prop := ∃ (s2 : Nat) (w : eV), sz.toInt = (s2 : Int) ∧ s2 + i ≤ i2 + s0 ∧ (∀ p, p < s0 → c' p = c p) ∧ eG ob T d K i e1 i2 w ∧ rnP c' (wN ob) s0 s2 nd w
section CD
variable {ob : Bool} {T : Nat → Int32} {d i s0 i0 so i1 s1 i2 s2 s3 N : Nat} {c c1 c2 : Nat → Int32} {jo : Int32} {v : eV}
def sI1 (ob : Bool) (T : Nat → Int32) (d : Nat) (c : Nat → Int32) (i0 so i1 s1 : Nat) (jo : Int32) : Prop := (jo = -1 ∧ i1 = i0 ∧ s1 = so) ∨ (¬ jo = -1 ∧ s1 + 1 + i0 ≤ i1 + so ∧ ∃ q w, i1 = q + 1 ∧ (T q = 3042 ∨ T q = 3047 ∨ T q = 3037) ∧ jo.toInt = (opC (T q) : Int) ∧ rnP c (wN ob) so s1 (2 * d + 2) w ∧ ∀ j v, eG ob T d 7 q w j v → eG ob T d 1 i0 e1 j v)
def sO1 (ob : Bool) (T : Nat → Int32) (d : Nat) (c : Nat → Int32) (i s0 i0 so : Nat) (jo : Int32) : Prop := (jo = -1 ∧ i0 = i ∧ so = s0) ∨ (¬ jo = -1 ∧ so + 1 + i ≤ i0 + s0 ∧ ∃ q w, i0 = q + 1 ∧ (T q = 3043 ∨ T q = 3045) ∧ jo.toInt = (opC (T q) : Int) ∧ rnP c (wN ob) s0 so (2 * d + 3) w ∧ ∀ j v, eG ob T d 6 q w j v → eG ob T d 0 i e1 j v)
theorem sI1_le (h : sI1 ob T d c i0 so i1 s1 jo) (q : so ≤ i0) : s1 ≤ i1 := by
  rcases h with ⟨_, h2, h3⟩ | ⟨_, h2, _⟩ <;> omega
theorem sO1_le (h : sO1 ob T d c i s0 i0 so jo) (q : s0 ≤ i) : so ≤ i0 := by
  rcases h with ⟨_, h2, h3⟩ | ⟨_, h2, _⟩ <;> omega
theorem sI1_lt (h : sI1 ob T d c i0 so i1 s1 jo) (q : so ≤ i0) (hl : s2 + i1 ≤ i2 + s1) (hN : i2 ≤ N) (h4 : N ≤ 400) : jo = -1 ∨ s2 < 400 := by
  rcases h with ⟨h1, _⟩ | ⟨_, h2, _⟩
  · exact Or.inl h1
  · exact Or.inr (by omega)
theorem sO1_lt (h : sO1 ob T d c i s0 i0 so jo) (q : s0 ≤ i) (hl : s2 + i0 ≤ i2 + so) (hN : i2 ≤ N) (h4 : N ≤ 400) : jo = -1 ∨ s2 < 400 := by
  rcases h with ⟨h1, _⟩ | ⟨_, h2, _⟩
  · exact Or.inl h1
  · exact Or.inr (by omega)
theorem sI1_st (h : sI1 ob T d c i0 so i1 s1 jo) (hG : eG ob T d 2 i1 e1 i2 v) (hr : rnP c1 (wN ob) s1 s2 (2 * d + 1) v) (hp : ∀ p, p < s1 → c1 p = c p) (hl : s2 + i1 ≤ i2 + s1) (he : emP jo c1 c2 s2 s3) : ∃ w, rnP c2 (wN ob) so s3 (2 * d + 2) w ∧ s3 + i0 ≤ i2 + so ∧ (∀ j v, eG ob T d 7 i2 w j v → eG ob T d 1 i0 e1 j v) ∧ ∀ p, p < so → c2 p = c p := by
  have hlt := hr.1
  rcases h with ⟨h1, h2, h3⟩ | ⟨h1, hs, q, w, e, hT, hjo, hw, hk⟩
  · rcases he with ⟨_, g2, g3⟩ | ⟨g1, _⟩
    · rw [g2, g3, ← h2, ← h3]
      exact ⟨v, rn_w hr (by omega), by omega, fun j v' hj => ei_1 hG hj, hp⟩
    · exact absurd h1 g1
  · rcases he with ⟨g1, _⟩ | ⟨_, g2, g3, g4⟩
    · exact absurd g1 h1
    · have hlw := hw.1
      refine ⟨jnO (opC (T q)) w v, ?_, by omega, fun j v' hj => hk j v' (ei_7y hT (by rw [← e]; exact hG) hj), fun p hp2 => (g4 p (by omega)).trans (hp p (by omega))⟩
      rw [g2]
      exact rn_jn (rn_cg hw (fun p h5 h6 => (g4 p (by omega)).trans (hp p h6))) (rn_cg hr (fun p h5 h6 => g4 p (by omega))) (by rw [g3, hjo]) (opC_b _).1 (opC_b _).2 (by omega)
theorem sO1_st (h : sO1 ob T d c i s0 i0 so jo) (hG : eG ob T d 1 i0 e1 i2 v) (hr : rnP c1 (wN ob) so s2 (2 * d + 2) v) (hp : ∀ p, p < so → c1 p = c p) (hl : s2 + i0 ≤ i2 + so) (he : emP jo c1 c2 s2 s3) : ∃ w, rnP c2 (wN ob) s0 s3 (2 * d + 3) w ∧ s3 + i ≤ i2 + s0 ∧ (∀ j v, eG ob T d 6 i2 w j v → eG ob T d 0 i e1 j v) ∧ ∀ p, p < s0 → c2 p = c p := by
  have hlt := hr.1
  rcases h with ⟨h1, h2, h3⟩ | ⟨h1, hs, q, w, e, hT, hjo, hw, hk⟩
  · rcases he with ⟨_, g2, g3⟩ | ⟨g1, _⟩
    · rw [g2, g3, ← h2, ← h3]
      exact ⟨v, rn_w hr (by omega), by omega, fun j v' hj => ei_0 hG hj, hp⟩
    · exact absurd h1 g1
  · rcases he with ⟨g1, _⟩ | ⟨_, g2, g3, g4⟩
    · exact absurd g1 h1
    · have hlw := hw.1
      refine ⟨jnO (opC (T q)) w v, ?_, by omega, fun j v' hj => hk j v' (ei_6y hT (by rw [← e]; exact hG) hj), fun p hp2 => (g4 p (by omega)).trans (hp p (by omega))⟩
      rw [g2]
      exact rn_jn (rn_cg hw (fun p h5 h6 => (g4 p (by omega)).trans (hp p h6))) (rn_cg hr (fun p h5 h6 => g4 p (by omega))) (by rw [g3, hjo]) (opC_b _).1 (opC_b _).2 (by omega)
def tI1 (ob : Bool) (T : Nat → Int32) (d : Nat) (c : Nat → Int32) (i0 so i1 s1 : Nat) (sk : Int32) : Prop := (sk = -1 ∧ i1 = i0 ∧ s1 = so) ∨ (¬ sk = -1 ∧ s1 + i0 ≤ i1 + so ∧ ∃ (q k : Nat) (w : eV), i1 = q + 1 ∧ T q = 2001 ∧ sk.toInt = (k : Int) ∧ s1 = k + 1 ∧ rnP c (wN ob) so k (2 * d + 4) w ∧ (c k).toInt = 16384 ∧ ∀ j v, eG ob T d 9 q w j v → eG ob T d 4 i0 e1 j v)
def tO1 (ob : Bool) (T : Nat → Int32) (d : Nat) (c : Nat → Int32) (i s0 i0 so : Nat) (sk : Int32) : Prop := (sk = -1 ∧ i0 = i ∧ so = s0) ∨ (¬ sk = -1 ∧ so + i ≤ i0 + s0 ∧ ∃ (q k : Nat) (w : eV), i0 = q + 1 ∧ T q = 2000 ∧ sk.toInt = (k : Int) ∧ so = k + 1 ∧ rnP c (wN ob) s0 k (2 * d + 4) w ∧ (c k).toInt = 12288 ∧ ∀ j v, eG ob T d 8 q w j v → eG ob T d 3 i e1 j v)
theorem tI1_le (h : tI1 ob T d c i0 so i1 s1 jo) (q : so ≤ i0) : s1 ≤ i1 := by
  rcases h with ⟨_, h2, h3⟩ | ⟨_, h2, _⟩ <;> omega
theorem tO1_le (h : tO1 ob T d c i s0 i0 so jo) (q : s0 ≤ i) : so ≤ i0 := by
  rcases h with ⟨_, h2, h3⟩ | ⟨_, h2, _⟩ <;> omega
theorem tI1_ld (h : tI1 ob T d c i0 so i1 s1 jo) (hr : rnP c1 (wN ob) s1 s2 (2 * d + 4) v) (hp : ∀ p, p < s1 → c1 p = c p) : ldQ jo c1 s2 := by
  have hlt := hr.1
  rcases h with ⟨h1, _⟩ | ⟨_, _, q, k, w, _, _, hk, hs, _, hc, _⟩
  · exact Or.inl h1
  · exact Or.inr ⟨k, 4, hk, by omega, by rw [hp k (by omega), hc]; decide, by decide⟩
theorem tO1_ld (h : tO1 ob T d c i s0 i0 so jo) (hr : rnP c1 (wN ob) so s2 (2 * d + 4) v) (hp : ∀ p, p < so → c1 p = c p) : ldQ jo c1 s2 := by
  have hlt := hr.1
  rcases h with ⟨h1, _⟩ | ⟨_, _, q, k, w, _, _, hk, hs, _, hc, _⟩
  · exact Or.inl h1
  · exact Or.inr ⟨k, 3, hk, by omega, by rw [hp k (by omega), hc]; decide, by decide⟩
theorem tI1_st (h : tI1 ob T d c i0 so i1 s1 jo) (hG : eG ob T d 5 i1 e1 i2 v) (hr : rnP c1 (wN ob) s1 s2 (2 * d + 4) v) (hp : ∀ p, p < s1 → c1 p = c p) (hl : s2 + i1 ≤ i2 + s1) (h4 : s2 ≤ 400) (he : ldP jo c1 c2 s2) : ∃ w, rnP c2 (wN ob) so s2 (2 * d + 4) w ∧ s2 + i0 ≤ i2 + so ∧ (∀ j v, eG ob T d 9 i2 w j v → eG ob T d 4 i0 e1 j v) ∧ ∀ p, p < so → c2 p = c p := by
  have hlt := hr.1
  rcases h with ⟨h1, h2, h3⟩ | ⟨h1, hs, q, k, w, e, hT, hjo, hs1, hw, hc, hk⟩
  · rcases he with ⟨_, g3⟩ | ⟨g1, _⟩
    · rw [g3, ← h2, ← h3]
      exact ⟨v, hr, by omega, fun j v' hj => ei_4 hG hj, hp⟩
    · exact absurd h1 g1
  · rcases he with ⟨g1, _⟩ | ⟨_, g2⟩
    · exact absurd g1 h1
    · have hlw := hw.1
      obtain ⟨g3, g4⟩ := g2 k hjo
      refine ⟨anO w v, ?_, by omega, fun j v' hj => hk j v' (ei_9y hT (by rw [← e]; exact hG) hj), fun p hp2 => (g4 p (by omega)).trans (hp p (by omega))⟩
      rw [hs1] at hr
      exact rn_and (rn_cg hw (fun p h5 h6 => (g4 p (by omega)).trans (hp p (by omega)))) (by rw [g3, hp k (by omega), hc]) (by omega) (rn_cg hr (fun p h5 h6 => g4 p (by omega)))
theorem tO1_st (h : tO1 ob T d c i s0 i0 so jo) (hG : eG ob T d 4 i0 e1 i2 v) (hr : rnP c1 (wN ob) so s2 (2 * d + 4) v) (hp : ∀ p, p < so → c1 p = c p) (hl : s2 + i0 ≤ i2 + so) (h4 : s2 ≤ 400) (he : ldP jo c1 c2 s2) : ∃ w, rnP c2 (wN ob) s0 s2 (2 * d + 4) w ∧ s2 + i ≤ i2 + s0 ∧ (∀ j v, eG ob T d 8 i2 w j v → eG ob T d 3 i e1 j v) ∧ ∀ p, p < s0 → c2 p = c p := by
  have hlt := hr.1
  rcases h with ⟨h1, h2, h3⟩ | ⟨h1, hs, q, k, w, e, hT, hjo, hs1, hw, hc, hk⟩
  · rcases he with ⟨_, g3⟩ | ⟨g1, _⟩
    · rw [g3, ← h2, ← h3]
      exact ⟨v, hr, by omega, fun j v' hj => ei_3 hG hj, hp⟩
    · exact absurd h1 g1
  · rcases he with ⟨g1, _⟩ | ⟨_, g2⟩
    · exact absurd g1 h1
    · have hlw := hw.1
      obtain ⟨g3, g4⟩ := g2 k hjo
      refine ⟨orO w v, ?_, by omega, fun j v' hj => hk j v' (ei_8y hT (by rw [← e]; exact hG) hj), fun p hp2 => (g4 p (by omega)).trans (hp p (by omega))⟩
      rw [hs1] at hr
      exact rn_or (rn_cg hw (fun p h5 h6 => (g4 p (by omega)).trans (hp p (by omega)))) (by rw [g3, hp k (by omega), hc]) (by omega) (rn_cg hr (fun p h5 h6 => g4 p (by omega)))
end CD
theorem cd_num {ob : Bool} {T : Nat → Int32} {d i s0 : Nat} {c c' : Nat → Int32} {sz : Int32} (hz : sz.toInt = ((s0 + 1 : Nat) : Int)) (ho : ∀ p, ¬ p = s0 → c' p = c p) (h : kb 0 (T i) 1000) (hc : (c' s0).toInt = 4096 * (0 : Int32).toInt + (T i).toInt) (hL : pLf ob (T i) = true) (hM : pNm ob (T i) = false) : cdP ob T d 2 i (i + 1) s0 c c' sz (2 * d + 1) := by
  have e0 : (0 : Int32).toInt = 0 := by decide +kernel
  have h1 := h.1
  have h2 := h.2
  obtain ⟨n, e⟩ : ∃ n : Nat, (T i).toInt = (n : Int) := ⟨(T i).toInt.toNat, by omega⟩
  refine ⟨s0 + 1, _, hz, by omega, fun p hp => ho p (by omega), ei_2l hL hM, ?_⟩
  rw [lf_num h e]
  exact rn_w (nd := 1) (rn_push (n := n) (by rw [hc, e0]; omega) (by omega)) (by omega)
theorem cd_law {T : Nat → Int32} {d i s0 : Nat} {c c' : Nat → Int32} {sz v : Int32} (hz : sz.toInt = ((s0 + 1 : Nat) : Int)) (ho : ∀ p, ¬ p = s0 → c' p = c p) (h : kb 2008 (T i) 2017) (hv : v.toInt = (T i).toInt - 2008) (hc : (c' s0).toInt = 4096 * (1 : Int32).toInt + v.toInt) (hL : pLf false (T i) = true) (hM : pNm false (T i) = false) : cdP false T d 2 i (i + 1) s0 c c' sz (2 * d + 1) := by
  have e0 : (1 : Int32).toInt = 1 := by decide +kernel
  have h1 := h.1
  have h2 := h.2
  refine ⟨s0 + 1, _, hz, by omega, fun p hp => ho p (by omega), ei_2l hL hM, ?_⟩
  rw [lf_word (n := ((T i).toInt - 2008).toNat) (fun q => by have := q.2; omega) rfl]
  exact rn_w (nd := 1) (rn_ask (n := ((T i).toInt - 2008).toNat) (by rw [hc, e0, hv]; omega) (by omega) (by show _ < 10; omega)) (by omega)
theorem cd_ord {T : Nat → Int32} {d i j s0 : Nat} {c c' : Nat → Int32} {sz v : Int32} (hz : sz.toInt = ((s0 + 1 : Nat) : Int)) (ho : ∀ p, ¬ p = s0 → c' p = c p) (h : ¬ kb 0 (T i) 1000) (hv : v.toInt = (wIx true (T i) (T (i + 1)) : Int)) (hb : kb 0 v 25) (hc : (c' s0).toInt = 4096 * (1 : Int32).toInt + v.toInt) (hj : i < j) (hG : eG true T d 2 i e1 j (lfO true (T i) (T (i + 1)))) : cdP true T d 2 i j s0 c c' sz (2 * d + 1) := by
  have e0 : (1 : Int32).toInt = 1 := by decide +kernel
  have h1 := hb.1
  have h2 := hb.2
  refine ⟨s0 + 1, _, hz, by omega, fun p hp => ho p (by omega), hG, ?_⟩
  rw [lf_word (n := wIx true (T i) (T (i + 1))) h rfl]
  exact rn_w (nd := 1) (rn_ask (n := wIx true (T i) (T (i + 1))) (by rw [hc, e0, hv]; omega) (by omega) (by show _ < 26; omega)) (by omega)
/-- a bracket -/
theorem cd_brk {ob : Bool} {T : Nat → Int32} {d e i i2 s0 : Nat} {c c' : Nat → Int32} {sz : Int32} (h : T i = 3091) (hd : d = e + 1) (h2 : T i2 = 3093) (q : cdP ob T e 0 (i + 1) i2 s0 c c' sz (2 * e + 3)) : cdP ob T d 2 i (i2 + 1) s0 c c' sz (2 * d + 1) := by
  obtain ⟨s2, w, q1, q2, q3, q4, q5⟩ := q
  exact ⟨s2, w, q1, by omega, q3, ei_2b h hd q4 h2, rn_w q5 (by omega)⟩
/-- behind a plain test: its not, if it is turned -/
theorem pl_l {sp i5 i j s0 : Nat} (h : sp + i5 ≤ j + s0) (q : i + 1 ≤ i5) : sp + i + 1 ≤ j + s0 := by omega
theorem pl_n {ob : Bool} {T : Nat → Int32} {d i i5 j s0 sp s2 nd : Nat} {c c1 c2 : Nat → Int32} {sz : Int32} {v : eV} (he : emP (-1) c1 c2 sp s2) (hz : sz.toInt = (s2 : Int)) (hr : rnP c1 (wN ob) s0 sp nd v) (hl : sp + i5 ≤ j + s0) (hq : ∀ p, p < s0 → c1 p = c p) (hG : eG ob T d 5 i e1 j v) (hi : i ≤ i5) : cdP ob T d 5 i j s0 c c2 sz nd := by
  rcases he with ⟨_, g2, g3⟩ | ⟨g1, _⟩
  · rw [g3]
    exact ⟨s2, v, hz, by omega, hq, hG, by rw [g2]; exact hr⟩
  · exact absurd rfl g1
theorem pl_y {ob : Bool} {T : Nat → Int32} {d i j s0 sp s2 nd : Nat} {c c1 c2 : Nat → Int32} {sz : Int32} {v : eV} (he : emP 2 c1 c2 sp s2) (hz : sz.toInt = (s2 : Int)) (hr : rnP c1 (wN ob) s0 sp nd v) (hl : sp + i + 1 ≤ j + s0) (hq : ∀ p, p < s0 → c1 p = c p) (hG : eG ob T d 5 i e1 j (ntO v)) : cdP ob T d 5 i j s0 c c2 sz nd := by
  have hlt := hr.1
  rcases he with ⟨g1, _⟩ | ⟨_, g2, g3, g4⟩
  · exact absurd g1 (by decide +kernel)
  · have e2 : (2 : Int32).toInt = 2 := by decide +kernel
    refine ⟨s2, ntO v, hz, by omega, fun p hp => (g4 p (by omega)).trans (hq p hp), hG, ?_⟩
    rw [g2]
    exact rn_not (rn_cg hr (fun p h5 h6 => g4 p (by omega))) (by rw [g3, e2]; decide)
/-! clauses, and the draft that they are read to -/
def hbO (ob : Bool) : Int := if ob = true then 2018 else 2004
theorem hb_f {ob : Bool} (h : ob = false) : hbO ob = 2004 := by rw [h]; rfl
theorem hb_t {ob : Bool} (h : ob = true) : hbO ob = 2018 := by rw [h]; rfl
/-- a clause's head and sums (and how often) are read; a: the rows ahead of it, a': behind it -/
def hdP (ob : Bool) (T : Nat → Int32) (i i2 cn s0 : Nat) (a a' : Nat → Nat → Int32) (sz : Int32) : Prop := ∃ (s1 s2 : Nat) (v1 v2 : eV) (tm : Int32), sz.toInt = (s2 : Int) ∧ s0 ≤ s1 ∧ s1 ≤ s2 ∧ s2 + i ≤ i2 + s0 ∧ (∀ p, p < s0 → a' 55 p = a 55 p) ∧ (∀ k, ¬ k = cn → a' 52 k = a 52 k ∧ a' 53 k = a 53 k) ∧ (a' 52 cn).toInt = (T i).toInt - hbO ob ∧ a' 53 cn = tm ∧ (∀ k, ¬ k = 3 * cn + 1 → ¬ k = 3 * cn + 2 → a' 54 k = a 54 k) ∧ (a' 54 (3 * cn + 1)).toInt = (s1 : Int) ∧ (a' 54 (3 * cn + 2)).toInt = (s2 : Int) ∧ pcP (a' 55) (wN ob) s0 s1 v1 ∧ pcP (a' 55) (wN ob) s1 s2 v2 ∧ ∀ j v3, ifE ob T i2 j v3 → clE ob T i j (T i) tm v1 v2 v3
section CE
variable {ob : Bool} {T : Nat → Int32} {i j m m' m2 : Nat} {tm : Int32} {v1 v2 v3 : eV}
theorem ce_l (ho : ob = false) (h : T i = 2004 ∨ T i = 2005 ∨ T i = 2006) (h1 : eG ob T 8 0 (i + 1) e1 m v1) (h3 : ifE ob T m j v3) : clE ob T i j (T i) 1 v1 e1 v3 := by
  refine ⟨rfl, ?_⟩
  rw [if_neg (by rw [ho]; decide)]
  exact ⟨rfl, rfl, Or.inl ⟨h, m, h1, h3⟩⟩
theorem ce_b (ho : ob = false) (h : T i = 2007) (h3 : ifE ob T (i + 1) j v3) : clE ob T i j (T i) 1 e1 e1 v3 := by
  refine ⟨rfl, ?_⟩
  rw [if_neg (by rw [ho]; decide)]
  exact ⟨rfl, rfl, Or.inr ⟨h, rfl, h3⟩⟩
theorem ce_s (ho : ob = true) (h : T i = 2018) (h1 : eG ob T 8 0 (i + 1) e1 m v1) (ht : T m = 2022) (h2 : eG ob T 8 0 (m + 1) e1 m' v2) (hm : tmE T m' m2 tm) (h3 : ifE ob T m2 j v3) : clE ob T i j (T i) tm v1 v2 v3 := by
  refine ⟨rfl, ?_⟩
  rw [if_pos ho]
  exact Or.inl ⟨h, m, m', m2, h1, ht, h2, hm, h3⟩
theorem ce_r (ho : ob = true) (h : T i = 2019 ∨ T i = 2020) (h1 : eG ob T 8 0 (i + 1) e1 m v1) (hm : tmE T m m2 tm) (h3 : ifE ob T m2 j v3) : clE ob T i j (T i) tm v1 e1 v3 := by
  refine ⟨rfl, ?_⟩
  rw [if_pos ho]
  exact Or.inr (Or.inl ⟨h, m, m2, h1, rfl, hm, h3⟩)
theorem ce_t (ho : ob = true) (h : T i = 2021) (hm : tmE T (i + 1) m2 tm) (h3 : ifE ob T m2 j v3) : clE ob T i j (T i) tm e1 e1 v3 := by
  refine ⟨rfl, ?_⟩
  rw [if_pos ho]
  exact Or.inr (Or.inr ⟨h, m2, rfl, rfl, hm, h3⟩)
end CE
/-- clause c of D stands in the rows (kinds, times, marks, code), all its code below sz -/
def clC (ob : Bool) (D : tE) (c sz : Nat) (kd tm mk cd : Nat → Int32) : Prop := ∃ m0 m1 m2 m3 : Nat, (mk (3 * c)).toInt = (m0 : Int) ∧ (mk (3 * c + 1)).toInt = (m1 : Int) ∧ (mk (3 * c + 2)).toInt = (m2 : Int) ∧ (mk (3 * c + 3)).toInt = (m3 : Int) ∧ m0 ≤ m1 ∧ m1 ≤ m2 ∧ m2 ≤ m3 ∧ m3 ≤ sz ∧ (kd c).toInt = (D.2.2.1 c).toInt - hbO ob ∧ tm c = D.2.2.2.1 c ∧ pcP cd (wN ob) m0 m1 (D.2.2.2.2.1 c) ∧ pcP cd (wN ob) m1 m2 (D.2.2.2.2.2.1 c) ∧ pcP cd (wN ob) m2 m3 (D.2.2.2.2.2.2 c)
theorem clC_cg {ob : Bool} {D D' : tE} {c sz sz' : Nat} {kd tm mk cd kd' tm' mk' cd' : Nat → Int32} (h : clC ob D c sz kd tm mk cd) (hz : sz ≤ sz') (h1 : kd' c = kd c) (h2 : tm' c = tm c) (h3 : ∀ k, 3 * c ≤ k → k ≤ 3 * c + 3 → mk' k = mk k) (h4 : ∀ p, p < sz → cd' p = cd p) (d1 : D'.2.2.1 c = D.2.2.1 c) (d2 : D'.2.2.2.1 c = D.2.2.2.1 c) (d3 : D'.2.2.2.2.1 c = D.2.2.2.2.1 c) (d4 : D'.2.2.2.2.2.1 c = D.2.2.2.2.2.1 c) (d5 : D'.2.2.2.2.2.2 c = D.2.2.2.2.2.2 c) : clC ob D' c sz' kd' tm' mk' cd' := by
  obtain ⟨m0, m1, m2, m3, a0, a1, a2, a3, l0, l1, l2, l3, hk, ht, p1, p2, p3⟩ := h
  refine ⟨m0, m1, m2, m3, by rw [h3 _ (by omega) (by omega)]; exact a0, by rw [h3 _ (by omega) (by omega)]; exact a1, by rw [h3 _ (by omega) (by omega)]; exact a2, by rw [h3 _ (by omega) (by omega)]; exact a3, l0, l1, l2, by omega, by rw [h1, d1]; exact hk, by rw [h2, d2]; exact ht, ?_, ?_, ?_⟩
  · rw [d3]; exact pc_cg p1 (fun p _ q => h4 p (by omega))
  · rw [d4]; exact pc_cg p2 (fun p _ q => h4 p (by omega))
  · rw [d5]; exact pc_cg p3 (fun p _ q => h4 p (by omega))
/-- cn clauses are read, each with its sign behind it; the next begins at i0 -/
def rdI (ob : Bool) (T : Nat → Int32) (cn i0 so : Nat) (A : Nat → Nat → Int32) : Prop := ∃ D : tE, D.2.1 0 = 0 ∧ D.2.1 cn = i0 ∧ (A 54 (3 * cn)).toInt = (so : Int) ∧ ∀ c, c < cn → (∃ j, clE ob T (D.2.1 c) j (D.2.2.1 c) (D.2.2.2.1 c) (D.2.2.2.2.1 c) (D.2.2.2.2.2.1 c) (D.2.2.2.2.2.2 c) ∧ T j = 3059 ∧ D.2.1 (c + 1) = j + 1) ∧ clC ob D c so (A 52) (A 53) (A 54) (A 55)
/-- a text is read: D, its code in the rows -/
def rdF (ob : Bool) (T : Nat → Int32) (N n sz : Nat) (A : Nat → Nat → Int32) : Prop := ∃ D : tE, txE ob T N D ∧ D.1 = n ∧ ∀ c, c < n → clC ob D c sz (A 52) (A 53) (A 54) (A 55)
def stD (D : tE) (cn nx : Nat) (hd tm : Int32) (v1 v2 v3 : eV) : tE := (cn + 1, (fun c => if c = cn + 1 then nx else D.2.1 c), upd D.2.2.1 cn hd, upd D.2.2.2.1 cn tm, (fun c => if c = cn then v1 else D.2.2.2.2.1 c), (fun c => if c = cn then v2 else D.2.2.2.2.2.1 c), (fun c => if c = cn then v3 else D.2.2.2.2.2.2 c))
/-- the test behind a clause's sums -/
def tsP (ob : Bool) (T : Nat → Int32) (i2 j s2 s3 : Nat) (c c' : Nat → Int32) : Prop := (¬ T i2 = 2003 ∧ j = i2 ∧ s3 = s2 ∧ c' = c) ∨ (T i2 = 2003 ∧ s3 + i2 + 1 ≤ j + s2 ∧ (∀ p, p < s2 → c' p = c p) ∧ ∃ w, eG ob T 8 3 (i2 + 1) e1 j w ∧ rnP c' (wN ob) s2 s3 20 w)
theorem ts_o {ob : Bool} {T : Nat → Int32} {i2 j s2 s3 : Nat} {c c' : Nat → Int32} (h : tsP ob T i2 j s2 s3 c c') : s2 ≤ s3 ∧ s3 + i2 ≤ j + s2 ∧ (∀ p, p < s2 → c' p = c p) ∧ ∃ w, ifE ob T i2 j w ∧ pcP c' (wN ob) s2 s3 w := by
  rcases h with ⟨h1, h2, h3, h4⟩ | ⟨h1, h2, h3, w, h4, h5⟩
  · rw [h2, h3, h4]
    exact ⟨Nat.le_refl _, by omega, fun _ _ => rfl, e1, Or.inr ⟨h1, rfl, rfl⟩, Or.inl ⟨rfl, rfl⟩⟩
  · exact ⟨Nat.le_of_lt h5.1, by omega, h3, w, Or.inl ⟨h1, h4⟩, Or.inr h5⟩
/-- the clause cn is read whole, and closed -/
theorem rd_st {ob : Bool} {T : Nat → Int32} {cn i0 so i2 j s2 s3 : Nat} {A A1 A2 A3 : Nat → Nat → Int32} {sz : Int32} (h : rdI ob T cn i0 so A) (hh : hdP ob T i0 i2 cn so A A1 sz) (hz : sz.toInt = (s2 : Int)) (ht : tsP ob T i2 j s2 s3 (A1 55) (A2 55)) (e2 : A2 52 = A1 52) (e3 : A2 53 = A1 53) (e4 : A2 54 = A1 54) (g2 : A3 52 = A2 52) (g3 : A3 53 = A2 53) (g5 : A3 55 = A2 55) (c1 : (A3 54 (3 * cn + 3)).toInt = (s3 : Int)) (c2 : ∀ p, ¬ p = 3 * cn + 3 → A3 54 p = A2 54 p) : s3 + i0 ≤ j + so ∧ ∀ nx, ∃ D : tE, D.1 = cn + 1 ∧ D.2.1 0 = 0 ∧ D.2.1 cn = i0 ∧ D.2.1 (cn + 1) = nx ∧ (∀ c, c < cn → ∃ j, clE ob T (D.2.1 c) j (D.2.2.1 c) (D.2.2.2.1 c) (D.2.2.2.2.1 c) (D.2.2.2.2.2.1 c) (D.2.2.2.2.2.2 c) ∧ T j = 3059 ∧ D.2.1 (c + 1) = j + 1) ∧ clE ob T i0 j (D.2.2.1 cn) (D.2.2.2.1 cn) (D.2.2.2.2.1 cn) (D.2.2.2.2.2.1 cn) (D.2.2.2.2.2.2 cn) ∧ ∀ c, c < cn + 1 → clC ob D c s3 (A3 52) (A3 53) (A3 54) (A3 55) := by
  obtain ⟨D, d0, dn, dm, dc⟩ := h
  obtain ⟨s1, s2', v1, v2, tm, z1, l1, l2, l3, q5, q52, hk, ht3, q54, m1, m2, p1, p2, hcl⟩ := hh
  have es : s2' = s2 := by omega
  subst es
  obtain ⟨t1, t2, t3, w, t4, t5⟩ := ts_o ht
  refine ⟨by omega, fun nx => ⟨stD D cn nx (T i0) tm v1 v2 w, rfl, ?_, ?_, if_pos rfl, fun c hc => ?_, ?_, fun c hc => ?_⟩⟩
  · show (if (0 : Nat) = cn + 1 then nx else D.2.1 0) = 0
    rw [if_neg (by omega)]; exact d0
  · show (if cn = cn + 1 then nx else D.2.1 cn) = i0
    rw [if_neg (by omega)]; exact dn
  · obtain ⟨⟨j', h1, h2, h3⟩, _⟩ := dc c hc
    refine ⟨j', ?_, h2, ?_⟩
    · have a1 : (stD D cn nx (T i0) tm v1 v2 w).2.1 c = D.2.1 c := if_neg (by omega)
      have a2 : (stD D cn nx (T i0) tm v1 v2 w).2.2.1 c = D.2.2.1 c := pk_un (by omega)
      have a3 : (stD D cn nx (T i0) tm v1 v2 w).2.2.2.1 c = D.2.2.2.1 c := pk_un (by omega)
      have a4 : (stD D cn nx (T i0) tm v1 v2 w).2.2.2.2.1 c = D.2.2.2.2.1 c := if_neg (by omega)
      have a5 : (stD D cn nx (T i0) tm v1 v2 w).2.2.2.2.2.1 c = D.2.2.2.2.2.1 c := if_neg (by omega)
      have a6 : (stD D cn nx (T i0) tm v1 v2 w).2.2.2.2.2.2 c = D.2.2.2.2.2.2 c := if_neg (by omega)
      rw [a1, a2, a3, a4, a5, a6]
      exact h1
    · show (if c + 1 = cn + 1 then nx else D.2.1 (c + 1)) = j' + 1
      rw [if_neg (by omega)]; exact h3
  · have a2 : (stD D cn nx (T i0) tm v1 v2 w).2.2.1 cn = T i0 := pk_us
    have a3 : (stD D cn nx (T i0) tm v1 v2 w).2.2.2.1 cn = tm := pk_us
    have a4 : (stD D cn nx (T i0) tm v1 v2 w).2.2.2.2.1 cn = v1 := if_pos rfl
    have a5 : (stD D cn nx (T i0) tm v1 v2 w).2.2.2.2.2.1 cn = v2 := if_pos rfl
    have a6 : (stD D cn nx (T i0) tm v1 v2 w).2.2.2.2.2.2 cn = w := if_pos rfl
    rw [a2, a3, a4, a5, a6]
    exact hcl j w t4
  · rw [g2, g3, g5, e2, e3]
    by_cases q : c = cn
    · subst q
      have a2 : (stD D c nx (T i0) tm v1 v2 w).2.2.1 c = T i0 := pk_us
      have a3 : (stD D c nx (T i0) tm v1 v2 w).2.2.2.1 c = tm := pk_us
      have a4 : (stD D c nx (T i0) tm v1 v2 w).2.2.2.2.1 c = v1 := if_pos rfl
      have a5 : (stD D c nx (T i0) tm v1 v2 w).2.2.2.2.2.1 c = v2 := if_pos rfl
      have a6 : (stD D c nx (T i0) tm v1 v2 w).2.2.2.2.2.2 c = w := if_pos rfl
      refine ⟨so, s1, s2', s3, ?_, ?_, ?_, c1, l1, l2, t1, Nat.le_refl _, by rw [a2]; exact hk, by rw [a3]; exact ht3, ?_, ?_, ?_⟩
      · rw [c2 _ (by omega), e4, q54 _ (by omega) (by omega)]; exact dm
      · rw [c2 _ (by omega), e4]; exact m1
      · rw [c2 _ (by omega), e4]; exact m2
      · rw [a4]; exact pc_cg p1 (fun p _ hp => t3 p (by omega))
      · rw [a5]; exact pc_cg p2 (fun p _ hp => t3 p (by omega))
      · rw [a6]; exact t5
    · obtain ⟨_, hc2⟩ := dc c (by omega)
      refine clC_cg hc2 (by omega) (q52 c q).1 (q52 c q).2 (fun k k1 k2 => ?_) (fun p hp => (t3 p (by omega)).trans (q5 p hp)) (pk_un q) (pk_un q) (if_neg q) (if_neg q) (if_neg q)
      rw [c2 k (by omega), e4]
      exact q54 k (by omega) (by omega)
/-- a sign behind it: the next clause -/
theorem rd_nx {ob : Bool} {T : Nat → Int32} {cn i0 j so s3 : Nat} {A3 : Nat → Nat → Int32} (h : ∀ nx, ∃ D : tE, D.1 = cn + 1 ∧ D.2.1 0 = 0 ∧ D.2.1 cn = i0 ∧ D.2.1 (cn + 1) = nx ∧ (∀ c, c < cn → ∃ j, clE ob T (D.2.1 c) j (D.2.2.1 c) (D.2.2.2.1 c) (D.2.2.2.2.1 c) (D.2.2.2.2.2.1 c) (D.2.2.2.2.2.2 c) ∧ T j = 3059 ∧ D.2.1 (c + 1) = j + 1) ∧ clE ob T i0 j (D.2.2.1 cn) (D.2.2.2.1 cn) (D.2.2.2.2.1 cn) (D.2.2.2.2.2.1 cn) (D.2.2.2.2.2.2 cn) ∧ ∀ c, c < cn + 1 → clC ob D c s3 (A3 52) (A3 53) (A3 54) (A3 55)) (c1 : (A3 54 (3 * cn + 3)).toInt = (s3 : Int)) (hT : T j = 3059) : rdI ob T (cn + 1) (j + 1) s3 A3 := by
  obtain ⟨D, _, h0, hn, hx, hc, hl, hC⟩ := h (j + 1)
  refine ⟨D, h0, hx, c1, fun c q => ⟨?_, hC c q⟩⟩
  by_cases e : c = cn
  · rw [e, hn]
    exact ⟨j, hl, hT, hx⟩
  · exact hc c (by omega)
/-- the end behind it: the text -/
theorem rd_fin {ob : Bool} {T : Nat → Int32} {cn i0 j so s3 N : Nat} {A3 : Nat → Nat → Int32} (h : ∀ nx, ∃ D : tE, D.1 = cn + 1 ∧ D.2.1 0 = 0 ∧ D.2.1 cn = i0 ∧ D.2.1 (cn + 1) = nx ∧ (∀ c, c < cn → ∃ j, clE ob T (D.2.1 c) j (D.2.2.1 c) (D.2.2.2.1 c) (D.2.2.2.2.1 c) (D.2.2.2.2.2.1 c) (D.2.2.2.2.2.2 c) ∧ T j = 3059 ∧ D.2.1 (c + 1) = j + 1) ∧ clE ob T i0 j (D.2.2.1 cn) (D.2.2.2.1 cn) (D.2.2.2.2.1 cn) (D.2.2.2.2.2.1 cn) (D.2.2.2.2.2.2 cn) ∧ ∀ c, c < cn + 1 → clC ob D c s3 (A3 52) (A3 53) (A3 54) (A3 55)) (hc12 : cn < 12) (hj : j = N) : rdF ob T N (cn + 1) s3 A3 := by
  obtain ⟨D, h1, h0, hn, hx, hc, hl, hC⟩ := h 0
  refine ⟨D, ⟨by omega, by omega, h0, fun c q => ?_⟩, h1, hC⟩
  by_cases e : c = cn
  · rw [e, hn]
    exact ⟨j, hl, Or.inr ⟨by omega, hj⟩⟩
  · obtain ⟨j', k1, k2, k3⟩ := hc c (by omega)
    exact ⟨j', k1, Or.inl ⟨by omega, k2, k3⟩⟩
theorem hd_sz {ob : Bool} {T : Nat → Int32} {i i2 cn s0 : Nat} {a a' : Nat → Nat → Int32} {sz : Int32} (h : hdP ob T i i2 cn s0 a a' sz) (q : s0 ≤ i) : ∃ s2 : Nat, sz.toInt = (s2 : Int) ∧ s2 ≤ i2 := by
  obtain ⟨s1, s2, v1, v2, tm, z1, l1, l2, l3, _⟩ := h
  exact ⟨s2, z1, by omega⟩
/-! the class's reading: the tokens that stand -/
def xQ (f : Nat → Int32) (a : Nat → Nat → Int32) (N : Nat) (ob : Bool) (T pl : Nat → Int32) : Prop := (f 1603).toInt = (N : Int) + 1 ∧ N ≤ 400 ∧ f 1606 = (if ob = true then 1 else 0) ∧ (∀ k, k ≤ N → a 56 k = T k) ∧ (∀ k, k ≤ N → a 57 k = pl k) ∧ (∀ k, N ≤ k → T k = 4000) ∧ ∀ k, kb 0 (T k) 4000
section XQ
variable {f f' : Nat → Int32} {a a' : Nat → Nat → Int32} {N i : Nat} {ob : Bool} {T pl : Nat → Int32}
theorem xQ_f {k : Nat} {v : Int32} (h : xQ f a N ob T pl) (n1 : 1603 ≠ k) (n2 : 1606 ≠ k) : xQ (upd f k v) a N ob T pl := ⟨by rw [pk_un n1]; exact h.1, h.2.1, by rw [pk_un n2]; exact h.2.2.1, h.2.2.2⟩
theorem xQ_c (h : xQ f a N ob T pl) (e1 : f' 1603 = f 1603) (e2 : f' 1606 = f 1606) (e : a' 56 = a 56 ∧ a' 57 = a 57) : xQ f' a' N ob T pl := by
  unfold xQ
  rw [e1, e2, e.1, e.2]
  exact h
theorem xQ_lt (h : xQ f a N ob T pl) (q : ¬ T i = 4000) : i < N := by
  by_cases w : i < N
  · exact w
  · exact absurd (h.2.2.2.2.2.1 i (by omega)) q
end XQ
theorem kb_pos {x : Int32} {i N : Nat} (h : i ≤ N) (hN : N ≤ 400) (e : x.toInt = (i : Int)) : kb 0 x 400 := ⟨by omega, by omega⟩
theorem kb_pos1 {x : Int32} {i N : Nat} (h : i < N) (hN : N ≤ 400) (e : x.toInt = (i : Int)) : kb 0 x 399 := ⟨by omega, by omega⟩
theorem ne_4000 {t k : Int32} (e : t = k) (h : ¬ k = 4000) : ¬ t = 4000 := fun q => h (e.symm.trans q)
/-- what a law's word is: pLf -/
theorem lfx_n {ob : Bool} {t : Int32} (h : kb 0 t 1000) : pLf ob t = true ∧ pNm ob t = false := lf_n (c := 50) (v := t) (t := t) (Or.inr (Or.inr (Or.inl ⟨rfl, h.1, Or.inl ⟨h.2, rfl⟩⟩))) rfl h.2
theorem lfx_l {t : Int32} (h : kb 2008 t 2017) : pLf false t = true ∧ pNm false t = false := by
  refine ⟨?_, rfl⟩
  unfold pLf
  rw [if_neg (by decide), pIn_t (lo := 2008) (hi := 2017) h, Bool.or_true]
theorem lfx_fl {t : Int32} (h : ¬ kb 0 t 1000) (q : ¬ kb 2008 t 2017) : pLf false t = false := by
  unfold pLf
  rw [if_neg (by decide), pIn_f (lo := 2008) (hi := 2017) q, pIn_f (lo := 0) (hi := 1000) h]
  rfl
theorem lfx_fo {t : Int32} (h : ¬ kb 0 t 1000) (n1 : ¬ t = 2014) (n2 : ¬ t = 2010) (n3 : ¬ t = 2027) (n4 : ¬ t = 2016) (n5 : ¬ t = 2024) (n6 : ¬ t = 2025) (n7 : ¬ t = 2026) : pLf true t = false := by
  unfold pLf
  rw [if_pos rfl, pIn_f (lo := 0) (hi := 1000) h, decide_eq_false n1, decide_eq_false n2, decide_eq_false n3, decide_eq_false n4, decide_eq_false n5, decide_eq_false n6, decide_eq_false n7]
  rfl
theorem pi_2e {o : Bool} {T : Nat → Int32} {d i n : Nat} (h : ¬ T i = 3091) (h2 : n = 50) : pG o T d 2 i n (false, i, 0) := by
  cases q : pLf o (T i) with
  | false => exact pi_2x h q
  | true => exact pi_2m h q h2
theorem c_eq {t x : Int32} {k : Int} (h : t.toInt = k) (e : x.toInt = k) : t = x := Int32.toInt_inj.mp (h.trans e.symm)
theorem n11 {t : Int32} (h : ¬ kb 2004 t 2007) : ¬ (t = 2004 ∨ t = 2005 ∨ t = 2006) ∧ ¬ t = 2007 := by
  constructor
  · intro q
    rcases q with e | e | e <;> (rw [e] at h; exact h ⟨by decide +kernel, by decide +kernel⟩)
  · intro e
    rw [e] at h; exact h ⟨by decide +kernel, by decide +kernel⟩
theorem y11 {t : Int32} (h : kb 2004 t 2006) : t = 2004 ∨ t = 2005 ∨ t = 2006 := by
  have h1 := h.1
  have h2 := h.2
  have : t.toInt = 2004 ∨ t.toInt = 2005 ∨ t.toInt = 2006 := by omega
  rcases this with e | e | e
  · exact Or.inl (c_eq e (by decide +kernel))
  · exact Or.inr (Or.inl (c_eq e (by decide +kernel)))
  · exact Or.inr (Or.inr (c_eq e (by decide +kernel)))
theorem n13 {t : Int32} (h : ¬ kb 2018 t 2021) : ¬ t = 2018 ∧ ¬ (t = 2019 ∨ t = 2020) ∧ ¬ t = 2021 := by
  refine ⟨?_, ?_, ?_⟩
  · intro e
    rw [e] at h; exact h ⟨by decide +kernel, by decide +kernel⟩
  · intro q
    rcases q with e | e <;> (rw [e] at h; exact h ⟨by decide +kernel, by decide +kernel⟩)
  · intro e
    rw [e] at h; exact h ⟨by decide +kernel, by decide +kernel⟩
theorem y13 {t : Int32} (h : kb 2019 t 2020) : t = 2019 ∨ t = 2020 := by
  have h1 := h.1
  have h2 := h.2
  have : t.toInt = 2019 ∨ t.toInt = 2020 := by omega
  rcases this with e | e
  · exact Or.inl (c_eq e (by decide +kernel))
  · exact Or.inr (c_eq e (by decide +kernel))
theorem i_ne2 {t x : Int32} {l h : Int} (b : kb l t h) (q : x.toInt < l ∨ h < x.toInt) : ¬ t = x := fun e => by
  have h1 := b.1
  have h2 := b.2
  rw [e] at h1 h2
  omega
theorem dX4_inHand_0 : decode cX4_inHand 0 = .ok (.aload_n 0, 1) := by decide +kernel
theorem dX4_inHand_1 : decode cX4_inHand 1 = .ok (.getfield 31, 3) := by decide +kernel
theorem dX4_inHand_4 : decode cX4_inHand 4 = .ok (.ifCond .lt 38, 3) := by decide +kernel
theorem dX4_inHand_7 : decode cX4_inHand 7 = .ok (.aload_n 0, 1) := by decide +kernel
theorem dX4_inHand_8 : decode cX4_inHand 8 = .ok (.getfield 31, 3) := by decide +kernel
theorem dX4_inHand_11 : decode cX4_inHand 11 = .ok (.aload_n 0, 1) := by decide +kernel
theorem dX4_inHand_12 : decode cX4_inHand 12 = .ok (.getfield 27, 3) := by decide +kernel
theorem dX4_inHand_15 : decode cX4_inHand 15 = .ok (.if_icmp .ge 27, 3) := by decide +kernel
theorem dX4_inHand_18 : decode cX4_inHand 18 = .ok (.aload_n 0, 1) := by decide +kernel
theorem dX4_inHand_19 : decode cX4_inHand 19 = .ok (.getfield 31, 3) := by decide +kernel
theorem dX4_inHand_22 : decode cX4_inHand 22 = .ok (.aload_n 0, 1) := by decide +kernel
theorem dX4_inHand_23 : decode cX4_inHand 23 = .ok (.getfield 20, 3) := by decide +kernel
theorem dX4_inHand_26 : decode cX4_inHand 26 = .ok (.arraylength, 1) := by decide +kernel
theorem dX4_inHand_27 : decode cX4_inHand 27 = .ok (.if_icmp .ge 15, 3) := by decide +kernel
theorem dX4_inHand_30 : decode cX4_inHand 30 = .ok (.aload_n 0, 1) := by decide +kernel
theorem dX4_inHand_31 : decode cX4_inHand 31 = .ok (.getfield 20, 3) := by decide +kernel
theorem dX4_inHand_34 : decode cX4_inHand 34 = .ok (.aload_n 0, 1) := by decide +kernel
theorem dX4_inHand_35 : decode cX4_inHand 35 = .ok (.getfield 31, 3) := by decide +kernel
theorem dX4_inHand_38 : decode cX4_inHand 38 = .ok (.iaload, 1) := by decide +kernel
theorem dX4_inHand_39 : decode cX4_inHand 39 = .ok (.goto 6, 3) := by decide +kernel
theorem dX4_inHand_42 : decode cX4_inHand 42 = .ok (.sipush 4000, 3) := by decide +kernel
theorem dX4_inHand_45 : decode cX4_inHand 45 = .ok (.ireturn, 1) := by decide +kernel
theorem dX4_placeInHand_0 : decode cX4_placeInHand 0 = .ok (.aload_n 0, 1) := by decide +kernel
theorem dX4_placeInHand_1 : decode cX4_placeInHand 1 = .ok (.getfield 31, 3) := by decide +kernel
theorem dX4_placeInHand_4 : decode cX4_placeInHand 4 = .ok (.ifCond .lt 38, 3) := by decide +kernel
theorem dX4_placeInHand_7 : decode cX4_placeInHand 7 = .ok (.aload_n 0, 1) := by decide +kernel
theorem dX4_placeInHand_8 : decode cX4_placeInHand 8 = .ok (.getfield 31, 3) := by decide +kernel
theorem dX4_placeInHand_11 : decode cX4_placeInHand 11 = .ok (.aload_n 0, 1) := by decide +kernel
theorem dX4_placeInHand_12 : decode cX4_placeInHand 12 = .ok (.getfield 27, 3) := by decide +kernel
theorem dX4_placeInHand_15 : decode cX4_placeInHand 15 = .ok (.if_icmp .ge 27, 3) := by decide +kernel
theorem dX4_placeInHand_18 : decode cX4_placeInHand 18 = .ok (.aload_n 0, 1) := by decide +kernel
theorem dX4_placeInHand_19 : decode cX4_placeInHand 19 = .ok (.getfield 31, 3) := by decide +kernel
theorem dX4_placeInHand_22 : decode cX4_placeInHand 22 = .ok (.aload_n 0, 1) := by decide +kernel
theorem dX4_placeInHand_23 : decode cX4_placeInHand 23 = .ok (.getfield 24, 3) := by decide +kernel
theorem dX4_placeInHand_26 : decode cX4_placeInHand 26 = .ok (.arraylength, 1) := by decide +kernel
theorem dX4_placeInHand_27 : decode cX4_placeInHand 27 = .ok (.if_icmp .ge 15, 3) := by decide +kernel
theorem dX4_placeInHand_30 : decode cX4_placeInHand 30 = .ok (.aload_n 0, 1) := by decide +kernel
theorem dX4_placeInHand_31 : decode cX4_placeInHand 31 = .ok (.getfield 24, 3) := by decide +kernel
theorem dX4_placeInHand_34 : decode cX4_placeInHand 34 = .ok (.aload_n 0, 1) := by decide +kernel
theorem dX4_placeInHand_35 : decode cX4_placeInHand 35 = .ok (.getfield 31, 3) := by decide +kernel
theorem dX4_placeInHand_38 : decode cX4_placeInHand 38 = .ok (.iaload, 1) := by decide +kernel
theorem dX4_placeInHand_39 : decode cX4_placeInHand 39 = .ok (.goto 4, 3) := by decide +kernel
theorem dX4_placeInHand_42 : decode cX4_placeInHand 42 = .ok (.iconst 0, 1) := by decide +kernel
theorem dX4_placeInHand_43 : decode cX4_placeInHand 43 = .ok (.ireturn, 1) := by decide +kernel
theorem dX4_readRule_0 : decode cX4_readRule 0 = .ok (.aload_n 0, 1) := by decide +kernel
theorem dX4_readRule_1 : decode cX4_readRule 1 = .ok (.invokevirtual 65, 3) := by decide +kernel
theorem dX4_readRule_4 : decode cX4_readRule 4 = .ok (.sipush 2004, 3) := by decide +kernel
theorem dX4_readRule_7 : decode cX4_readRule 7 = .ok (.isub, 1) := by decide +kernel
theorem dX4_readRule_8 : decode cX4_readRule 8 = .ok (.istore_n 1, 1) := by decide +kernel
theorem dX4_readRule_9 : decode cX4_readRule 9 = .ok (.iload_n 1, 1) := by decide +kernel
theorem dX4_readRule_10 : decode cX4_readRule 10 = .ok (.ifCond .lt 19, 3) := by decide +kernel
theorem dX4_readRule_13 : decode cX4_readRule 13 = .ok (.iload_n 1, 1) := by decide +kernel
theorem dX4_readRule_14 : decode cX4_readRule 14 = .ok (.iconst 4, 1) := by decide +kernel
theorem dX4_readRule_15 : decode cX4_readRule 15 = .ok (.if_icmp .ge 14, 3) := by decide +kernel
theorem dX4_readRule_18 : decode cX4_readRule 18 = .ok (.aload_n 0, 1) := by decide +kernel
theorem dX4_readRule_19 : decode cX4_readRule 19 = .ok (.getfield 16, 3) := by decide +kernel
theorem dX4_readRule_22 : decode cX4_readRule 22 = .ok (.iload_n 1, 1) := by decide +kernel
theorem dX4_readRule_23 : decode cX4_readRule 23 = .ok (.invokevirtual 104, 3) := by decide +kernel
theorem dX4_readRule_26 : decode cX4_readRule 26 = .ok (.ifCond .ne 5, 3) := by decide +kernel
theorem dX4_readRule_29 : decode cX4_readRule 29 = .ok (.iconst 0, 1) := by decide +kernel
theorem dX4_readRule_30 : decode cX4_readRule 30 = .ok (.ireturn, 1) := by decide +kernel
theorem dX4_readRule_31 : decode cX4_readRule 31 = .ok (.aload_n 0, 1) := by decide +kernel
theorem dX4_readRule_32 : decode cX4_readRule 32 = .ok (.dup, 1) := by decide +kernel
theorem dX4_readRule_33 : decode cX4_readRule 33 = .ok (.getfield 31, 3) := by decide +kernel
theorem dX4_readRule_36 : decode cX4_readRule 36 = .ok (.iconst 1, 1) := by decide +kernel
theorem dX4_readRule_37 : decode cX4_readRule 37 = .ok (.iadd, 1) := by decide +kernel
theorem dX4_readRule_38 : decode cX4_readRule 38 = .ok (.putfield 31, 3) := by decide +kernel
theorem dX4_readRule_41 : decode cX4_readRule 41 = .ok (.iload_n 1, 1) := by decide +kernel
theorem dX4_readRule_42 : decode cX4_readRule 42 = .ok (.iconst 3, 1) := by decide +kernel
theorem dX4_readRule_43 : decode cX4_readRule 43 = .ok (.if_icmp .eq 13, 3) := by decide +kernel
theorem dX4_readRule_46 : decode cX4_readRule 46 = .ok (.aload_n 0, 1) := by decide +kernel
theorem dX4_readRule_47 : decode cX4_readRule 47 = .ok (.iconst 0, 1) := by decide +kernel
theorem dX4_readRule_48 : decode cX4_readRule 48 = .ok (.invokevirtual 107, 3) := by decide +kernel
theorem dX4_readRule_51 : decode cX4_readRule 51 = .ok (.ifCond .ne 5, 3) := by decide +kernel
theorem dX4_readRule_54 : decode cX4_readRule 54 = .ok (.iconst 0, 1) := by decide +kernel
theorem dX4_readRule_55 : decode cX4_readRule 55 = .ok (.ireturn, 1) := by decide +kernel
theorem dX4_readRule_56 : decode cX4_readRule 56 = .ok (.aload_n 0, 1) := by decide +kernel
theorem dX4_readRule_57 : decode cX4_readRule 57 = .ok (.getfield 16, 3) := by decide +kernel
theorem dX4_readRule_60 : decode cX4_readRule 60 = .ok (.iconst 0, 1) := by decide +kernel
theorem dX4_readRule_61 : decode cX4_readRule 61 = .ok (.invokevirtual 72, 3) := by decide +kernel
theorem dX4_readRule_64 : decode cX4_readRule 64 = .ok (.aload_n 0, 1) := by decide +kernel
theorem dX4_readRule_65 : decode cX4_readRule 65 = .ok (.getfield 16, 3) := by decide +kernel
theorem dX4_readRule_68 : decode cX4_readRule 68 = .ok (.iconst 1, 1) := by decide +kernel
theorem dX4_readRule_69 : decode cX4_readRule 69 = .ok (.invokevirtual 72, 3) := by decide +kernel
theorem dX4_readRule_72 : decode cX4_readRule 72 = .ok (.iconst 1, 1) := by decide +kernel
theorem dX4_readRule_73 : decode cX4_readRule 73 = .ok (.ireturn, 1) := by decide +kernel
theorem dX4_readOrder_0 : decode cX4_readOrder 0 = .ok (.aload_n 0, 1) := by decide +kernel
theorem dX4_readOrder_1 : decode cX4_readOrder 1 = .ok (.invokevirtual 65, 3) := by decide +kernel
theorem dX4_readOrder_4 : decode cX4_readOrder 4 = .ok (.sipush 2018, 3) := by decide +kernel
theorem dX4_readOrder_7 : decode cX4_readOrder 7 = .ok (.isub, 1) := by decide +kernel
theorem dX4_readOrder_8 : decode cX4_readOrder 8 = .ok (.istore_n 1, 1) := by decide +kernel
theorem dX4_readOrder_9 : decode cX4_readOrder 9 = .ok (.iload_n 1, 1) := by decide +kernel
theorem dX4_readOrder_10 : decode cX4_readOrder 10 = .ok (.ifCond .lt 19, 3) := by decide +kernel
theorem dX4_readOrder_13 : decode cX4_readOrder 13 = .ok (.iload_n 1, 1) := by decide +kernel
theorem dX4_readOrder_14 : decode cX4_readOrder 14 = .ok (.iconst 4, 1) := by decide +kernel
theorem dX4_readOrder_15 : decode cX4_readOrder 15 = .ok (.if_icmp .ge 14, 3) := by decide +kernel
theorem dX4_readOrder_18 : decode cX4_readOrder 18 = .ok (.aload_n 0, 1) := by decide +kernel
theorem dX4_readOrder_19 : decode cX4_readOrder 19 = .ok (.getfield 16, 3) := by decide +kernel
theorem dX4_readOrder_22 : decode cX4_readOrder 22 = .ok (.iload_n 1, 1) := by decide +kernel
theorem dX4_readOrder_23 : decode cX4_readOrder 23 = .ok (.invokevirtual 104, 3) := by decide +kernel
theorem dX4_readOrder_26 : decode cX4_readOrder 26 = .ok (.ifCond .ne 5, 3) := by decide +kernel
theorem dX4_readOrder_29 : decode cX4_readOrder 29 = .ok (.iconst 0, 1) := by decide +kernel
theorem dX4_readOrder_30 : decode cX4_readOrder 30 = .ok (.ireturn, 1) := by decide +kernel
theorem dX4_readOrder_31 : decode cX4_readOrder 31 = .ok (.aload_n 0, 1) := by decide +kernel
theorem dX4_readOrder_32 : decode cX4_readOrder 32 = .ok (.dup, 1) := by decide +kernel
theorem dX4_readOrder_33 : decode cX4_readOrder 33 = .ok (.getfield 31, 3) := by decide +kernel
theorem dX4_readOrder_36 : decode cX4_readOrder 36 = .ok (.iconst 1, 1) := by decide +kernel
theorem dX4_readOrder_37 : decode cX4_readOrder 37 = .ok (.iadd, 1) := by decide +kernel
theorem dX4_readOrder_38 : decode cX4_readOrder 38 = .ok (.putfield 31, 3) := by decide +kernel
theorem dX4_readOrder_41 : decode cX4_readOrder 41 = .ok (.iload_n 1, 1) := by decide +kernel
theorem dX4_readOrder_42 : decode cX4_readOrder 42 = .ok (.iconst 3, 1) := by decide +kernel
theorem dX4_readOrder_43 : decode cX4_readOrder 43 = .ok (.if_icmp .eq 13, 3) := by decide +kernel
theorem dX4_readOrder_46 : decode cX4_readOrder 46 = .ok (.aload_n 0, 1) := by decide +kernel
theorem dX4_readOrder_47 : decode cX4_readOrder 47 = .ok (.iconst 0, 1) := by decide +kernel
theorem dX4_readOrder_48 : decode cX4_readOrder 48 = .ok (.invokevirtual 107, 3) := by decide +kernel
theorem dX4_readOrder_51 : decode cX4_readOrder 51 = .ok (.ifCond .ne 5, 3) := by decide +kernel
theorem dX4_readOrder_54 : decode cX4_readOrder 54 = .ok (.iconst 0, 1) := by decide +kernel
theorem dX4_readOrder_55 : decode cX4_readOrder 55 = .ok (.ireturn, 1) := by decide +kernel
theorem dX4_readOrder_56 : decode cX4_readOrder 56 = .ok (.aload_n 0, 1) := by decide +kernel
theorem dX4_readOrder_57 : decode cX4_readOrder 57 = .ok (.getfield 16, 3) := by decide +kernel
theorem dX4_readOrder_60 : decode cX4_readOrder 60 = .ok (.iconst 0, 1) := by decide +kernel
theorem dX4_readOrder_61 : decode cX4_readOrder 61 = .ok (.invokevirtual 72, 3) := by decide +kernel
theorem dX4_readOrder_64 : decode cX4_readOrder 64 = .ok (.iload_n 1, 1) := by decide +kernel
theorem dX4_readOrder_65 : decode cX4_readOrder 65 = .ok (.ifCond .ne 35, 3) := by decide +kernel
theorem dX4_readOrder_68 : decode cX4_readOrder 68 = .ok (.aload_n 0, 1) := by decide +kernel
theorem dX4_readOrder_69 : decode cX4_readOrder 69 = .ok (.invokevirtual 65, 3) := by decide +kernel
theorem dX4_readOrder_72 : decode cX4_readOrder 72 = .ok (.sipush 2022, 3) := by decide +kernel
theorem dX4_readOrder_75 : decode cX4_readOrder 75 = .ok (.if_icmp .eq 5, 3) := by decide +kernel
theorem dX4_readOrder_78 : decode cX4_readOrder 78 = .ok (.iconst 0, 1) := by decide +kernel
theorem dX4_readOrder_79 : decode cX4_readOrder 79 = .ok (.ireturn, 1) := by decide +kernel
theorem dX4_readOrder_80 : decode cX4_readOrder 80 = .ok (.aload_n 0, 1) := by decide +kernel
theorem dX4_readOrder_81 : decode cX4_readOrder 81 = .ok (.dup, 1) := by decide +kernel
theorem dX4_readOrder_82 : decode cX4_readOrder 82 = .ok (.getfield 31, 3) := by decide +kernel
theorem dX4_readOrder_85 : decode cX4_readOrder 85 = .ok (.iconst 1, 1) := by decide +kernel
theorem dX4_readOrder_86 : decode cX4_readOrder 86 = .ok (.iadd, 1) := by decide +kernel
theorem dX4_readOrder_87 : decode cX4_readOrder 87 = .ok (.putfield 31, 3) := by decide +kernel
theorem dX4_readOrder_90 : decode cX4_readOrder 90 = .ok (.aload_n 0, 1) := by decide +kernel
theorem dX4_readOrder_91 : decode cX4_readOrder 91 = .ok (.iconst 0, 1) := by decide +kernel
theorem dX4_readOrder_92 : decode cX4_readOrder 92 = .ok (.invokevirtual 107, 3) := by decide +kernel
theorem dX4_readOrder_95 : decode cX4_readOrder 95 = .ok (.ifCond .ne 5, 3) := by decide +kernel
theorem dX4_readOrder_98 : decode cX4_readOrder 98 = .ok (.iconst 0, 1) := by decide +kernel
theorem dX4_readOrder_99 : decode cX4_readOrder 99 = .ok (.ireturn, 1) := by decide +kernel
theorem dX4_readOrder_100 : decode cX4_readOrder 100 = .ok (.aload_n 0, 1) := by decide +kernel
theorem dX4_readOrder_101 : decode cX4_readOrder 101 = .ok (.getfield 16, 3) := by decide +kernel
theorem dX4_readOrder_104 : decode cX4_readOrder 104 = .ok (.iconst 1, 1) := by decide +kernel
theorem dX4_readOrder_105 : decode cX4_readOrder 105 = .ok (.invokevirtual 72, 3) := by decide +kernel
theorem dX4_readOrder_108 : decode cX4_readOrder 108 = .ok (.aload_n 0, 1) := by decide +kernel
theorem dX4_readOrder_109 : decode cX4_readOrder 109 = .ok (.invokevirtual 110, 3) := by decide +kernel
theorem dX4_readOrder_112 : decode cX4_readOrder 112 = .ok (.ireturn, 1) := by decide +kernel
theorem dX4_readTimes_0 : decode cX4_readTimes 0 = .ok (.aload_n 0, 1) := by decide +kernel
theorem dX4_readTimes_1 : decode cX4_readTimes 1 = .ok (.invokevirtual 65, 3) := by decide +kernel
theorem dX4_readTimes_4 : decode cX4_readTimes 4 = .ok (.sipush 2023, 3) := by decide +kernel
theorem dX4_readTimes_7 : decode cX4_readTimes 7 = .ok (.if_icmp .eq 5, 3) := by decide +kernel
theorem dX4_readTimes_10 : decode cX4_readTimes 10 = .ok (.iconst 1, 1) := by decide +kernel
theorem dX4_readTimes_11 : decode cX4_readTimes 11 = .ok (.ireturn, 1) := by decide +kernel
theorem dX4_readTimes_12 : decode cX4_readTimes 12 = .ok (.aload_n 0, 1) := by decide +kernel
theorem dX4_readTimes_13 : decode cX4_readTimes 13 = .ok (.dup, 1) := by decide +kernel
theorem dX4_readTimes_14 : decode cX4_readTimes 14 = .ok (.getfield 31, 3) := by decide +kernel
theorem dX4_readTimes_17 : decode cX4_readTimes 17 = .ok (.iconst 1, 1) := by decide +kernel
theorem dX4_readTimes_18 : decode cX4_readTimes 18 = .ok (.iadd, 1) := by decide +kernel
theorem dX4_readTimes_19 : decode cX4_readTimes 19 = .ok (.putfield 31, 3) := by decide +kernel
theorem dX4_readTimes_22 : decode cX4_readTimes 22 = .ok (.aload_n 0, 1) := by decide +kernel
theorem dX4_readTimes_23 : decode cX4_readTimes 23 = .ok (.invokevirtual 65, 3) := by decide +kernel
theorem dX4_readTimes_26 : decode cX4_readTimes 26 = .ok (.istore_n 1, 1) := by decide +kernel
theorem dX4_readTimes_27 : decode cX4_readTimes 27 = .ok (.iload_n 1, 1) := by decide +kernel
theorem dX4_readTimes_28 : decode cX4_readTimes 28 = .ok (.iconst 1, 1) := by decide +kernel
theorem dX4_readTimes_29 : decode cX4_readTimes 29 = .ok (.if_icmp .lt 9, 3) := by decide +kernel
theorem dX4_readTimes_32 : decode cX4_readTimes 32 = .ok (.iload_n 1, 1) := by decide +kernel
theorem dX4_readTimes_33 : decode cX4_readTimes 33 = .ok (.bipush 20, 2) := by decide +kernel
theorem dX4_readTimes_35 : decode cX4_readTimes 35 = .ok (.if_icmp .le 5, 3) := by decide +kernel
theorem dX4_readTimes_38 : decode cX4_readTimes 38 = .ok (.iconst 0, 1) := by decide +kernel
theorem dX4_readTimes_39 : decode cX4_readTimes 39 = .ok (.ireturn, 1) := by decide +kernel
theorem dX4_readTimes_40 : decode cX4_readTimes 40 = .ok (.aload_n 0, 1) := by decide +kernel
theorem dX4_readTimes_41 : decode cX4_readTimes 41 = .ok (.dup, 1) := by decide +kernel
theorem dX4_readTimes_42 : decode cX4_readTimes 42 = .ok (.getfield 31, 3) := by decide +kernel
theorem dX4_readTimes_45 : decode cX4_readTimes 45 = .ok (.iconst 1, 1) := by decide +kernel
theorem dX4_readTimes_46 : decode cX4_readTimes 46 = .ok (.iadd, 1) := by decide +kernel
theorem dX4_readTimes_47 : decode cX4_readTimes 47 = .ok (.putfield 31, 3) := by decide +kernel
theorem dX4_readTimes_50 : decode cX4_readTimes 50 = .ok (.aload_n 0, 1) := by decide +kernel
theorem dX4_readTimes_51 : decode cX4_readTimes 51 = .ok (.getfield 16, 3) := by decide +kernel
theorem dX4_readTimes_54 : decode cX4_readTimes 54 = .ok (.iload_n 1, 1) := by decide +kernel
theorem dX4_readTimes_55 : decode cX4_readTimes 55 = .ok (.invokevirtual 113, 3) := by decide +kernel
theorem dX4_readTimes_58 : decode cX4_readTimes 58 = .ok (.iconst 1, 1) := by decide +kernel
theorem dX4_readTimes_59 : decode cX4_readTimes 59 = .ok (.ireturn, 1) := by decide +kernel
theorem dX4_readTest_0 : decode cX4_readTest 0 = .ok (.iconst (-1), 1) := by decide +kernel
theorem dX4_readTest_1 : decode cX4_readTest 1 = .ok (.istore_n 2, 1) := by decide +kernel
theorem dX4_readTest_2 : decode cX4_readTest 2 = .ok (.iconst 0, 1) := by decide +kernel
theorem dX4_readTest_3 : decode cX4_readTest 3 = .ok (.istore_n 3, 1) := by decide +kernel
theorem dX4_readTest_4 : decode cX4_readTest 4 = .ok (.iload_n 3, 1) := by decide +kernel
theorem dX4_readTest_5 : decode cX4_readTest 5 = .ok (.sipush 400, 3) := by decide +kernel
theorem dX4_readTest_8 : decode cX4_readTest 8 = .ok (.if_icmp .ge 122, 3) := by decide +kernel
theorem dX4_readTest_11 : decode cX4_readTest 11 = .ok (.iconst (-1), 1) := by decide +kernel
theorem dX4_readTest_12 : decode cX4_readTest 12 = .ok (.istore 4, 2) := by decide +kernel
theorem dX4_readTest_14 : decode cX4_readTest 14 = .ok (.iconst 0, 1) := by decide +kernel
theorem dX4_readTest_15 : decode cX4_readTest 15 = .ok (.istore 5, 2) := by decide +kernel
theorem dX4_readTest_17 : decode cX4_readTest 17 = .ok (.iload 5, 2) := by decide +kernel
theorem dX4_readTest_19 : decode cX4_readTest 19 = .ok (.sipush 400, 3) := by decide +kernel
theorem dX4_readTest_22 : decode cX4_readTest 22 = .ok (.if_icmp .ge 62, 3) := by decide +kernel
theorem dX4_readTest_25 : decode cX4_readTest 25 = .ok (.aload_n 0, 1) := by decide +kernel
theorem dX4_readTest_26 : decode cX4_readTest 26 = .ok (.iload_n 1, 1) := by decide +kernel
theorem dX4_readTest_27 : decode cX4_readTest 27 = .ok (.invokevirtual 116, 3) := by decide +kernel
theorem dX4_readTest_30 : decode cX4_readTest 30 = .ok (.ifCond .ne 5, 3) := by decide +kernel
theorem dX4_readTest_33 : decode cX4_readTest 33 = .ok (.iconst 0, 1) := by decide +kernel
theorem dX4_readTest_34 : decode cX4_readTest 34 = .ok (.ireturn, 1) := by decide +kernel
theorem dX4_readTest_35 : decode cX4_readTest 35 = .ok (.aload_n 0, 1) := by decide +kernel
theorem dX4_readTest_36 : decode cX4_readTest 36 = .ok (.getfield 16, 3) := by decide +kernel
theorem dX4_readTest_39 : decode cX4_readTest 39 = .ok (.iload 4, 2) := by decide +kernel
theorem dX4_readTest_41 : decode cX4_readTest 41 = .ok (.invokevirtual 119, 3) := by decide +kernel
theorem dX4_readTest_44 : decode cX4_readTest 44 = .ok (.aload_n 0, 1) := by decide +kernel
theorem dX4_readTest_45 : decode cX4_readTest 45 = .ok (.invokevirtual 65, 3) := by decide +kernel
theorem dX4_readTest_48 : decode cX4_readTest 48 = .ok (.sipush 2001, 3) := by decide +kernel
theorem dX4_readTest_51 : decode cX4_readTest 51 = .ok (.if_icmp .eq 6, 3) := by decide +kernel
theorem dX4_readTest_54 : decode cX4_readTest 54 = .ok (.goto 30, 3) := by decide +kernel
theorem dX4_readTest_57 : decode cX4_readTest 57 = .ok (.aload_n 0, 1) := by decide +kernel
theorem dX4_readTest_58 : decode cX4_readTest 58 = .ok (.dup, 1) := by decide +kernel
theorem dX4_readTest_59 : decode cX4_readTest 59 = .ok (.getfield 31, 3) := by decide +kernel
theorem dX4_readTest_62 : decode cX4_readTest 62 = .ok (.iconst 1, 1) := by decide +kernel
theorem dX4_readTest_63 : decode cX4_readTest 63 = .ok (.iadd, 1) := by decide +kernel
theorem dX4_readTest_64 : decode cX4_readTest 64 = .ok (.putfield 31, 3) := by decide +kernel
theorem dX4_readTest_67 : decode cX4_readTest 67 = .ok (.aload_n 0, 1) := by decide +kernel
theorem dX4_readTest_68 : decode cX4_readTest 68 = .ok (.getfield 16, 3) := by decide +kernel
theorem dX4_readTest_71 : decode cX4_readTest 71 = .ok (.iconst 4, 1) := by decide +kernel
theorem dX4_readTest_72 : decode cX4_readTest 72 = .ok (.iconst 0, 1) := by decide +kernel
theorem dX4_readTest_73 : decode cX4_readTest 73 = .ok (.invokevirtual 122, 3) := by decide +kernel
theorem dX4_readTest_76 : decode cX4_readTest 76 = .ok (.istore 4, 2) := by decide +kernel
theorem dX4_readTest_78 : decode cX4_readTest 78 = .ok (.iinc 5 1, 3) := by decide +kernel
theorem dX4_readTest_81 : decode cX4_readTest 81 = .ok (.goto (-64), 3) := by decide +kernel
theorem dX4_readTest_84 : decode cX4_readTest 84 = .ok (.aload_n 0, 1) := by decide +kernel
theorem dX4_readTest_85 : decode cX4_readTest 85 = .ok (.getfield 16, 3) := by decide +kernel
theorem dX4_readTest_88 : decode cX4_readTest 88 = .ok (.iload_n 2, 1) := by decide +kernel
theorem dX4_readTest_89 : decode cX4_readTest 89 = .ok (.invokevirtual 119, 3) := by decide +kernel
theorem dX4_readTest_92 : decode cX4_readTest 92 = .ok (.aload_n 0, 1) := by decide +kernel
theorem dX4_readTest_93 : decode cX4_readTest 93 = .ok (.invokevirtual 65, 3) := by decide +kernel
theorem dX4_readTest_96 : decode cX4_readTest 96 = .ok (.sipush 2000, 3) := by decide +kernel
theorem dX4_readTest_99 : decode cX4_readTest 99 = .ok (.if_icmp .eq 5, 3) := by decide +kernel
theorem dX4_readTest_102 : decode cX4_readTest 102 = .ok (.iconst 1, 1) := by decide +kernel
theorem dX4_readTest_103 : decode cX4_readTest 103 = .ok (.ireturn, 1) := by decide +kernel
theorem dX4_readTest_104 : decode cX4_readTest 104 = .ok (.aload_n 0, 1) := by decide +kernel
theorem dX4_readTest_105 : decode cX4_readTest 105 = .ok (.dup, 1) := by decide +kernel
theorem dX4_readTest_106 : decode cX4_readTest 106 = .ok (.getfield 31, 3) := by decide +kernel
theorem dX4_readTest_109 : decode cX4_readTest 109 = .ok (.iconst 1, 1) := by decide +kernel
theorem dX4_readTest_110 : decode cX4_readTest 110 = .ok (.iadd, 1) := by decide +kernel
theorem dX4_readTest_111 : decode cX4_readTest 111 = .ok (.putfield 31, 3) := by decide +kernel
theorem dX4_readTest_114 : decode cX4_readTest 114 = .ok (.aload_n 0, 1) := by decide +kernel
theorem dX4_readTest_115 : decode cX4_readTest 115 = .ok (.getfield 16, 3) := by decide +kernel
theorem dX4_readTest_118 : decode cX4_readTest 118 = .ok (.iconst 3, 1) := by decide +kernel
theorem dX4_readTest_119 : decode cX4_readTest 119 = .ok (.iconst 0, 1) := by decide +kernel
theorem dX4_readTest_120 : decode cX4_readTest 120 = .ok (.invokevirtual 122, 3) := by decide +kernel
theorem dX4_readTest_123 : decode cX4_readTest 123 = .ok (.istore_n 2, 1) := by decide +kernel
theorem dX4_readTest_124 : decode cX4_readTest 124 = .ok (.iinc 3 1, 3) := by decide +kernel
theorem dX4_readTest_127 : decode cX4_readTest 127 = .ok (.goto (-123), 3) := by decide +kernel
theorem dX4_readPlain_0 : decode cX4_readPlain 0 = .ok (.iconst 0, 1) := by decide +kernel
theorem dX4_readPlain_1 : decode cX4_readPlain 1 = .ok (.istore_n 2, 1) := by decide +kernel
theorem dX4_readPlain_2 : decode cX4_readPlain 2 = .ok (.iconst 0, 1) := by decide +kernel
theorem dX4_readPlain_3 : decode cX4_readPlain 3 = .ok (.istore_n 3, 1) := by decide +kernel
theorem dX4_readPlain_4 : decode cX4_readPlain 4 = .ok (.iload_n 3, 1) := by decide +kernel
theorem dX4_readPlain_5 : decode cX4_readPlain 5 = .ok (.sipush 400, 3) := by decide +kernel
theorem dX4_readPlain_8 : decode cX4_readPlain 8 = .ok (.if_icmp .ge 39, 3) := by decide +kernel
theorem dX4_readPlain_11 : decode cX4_readPlain 11 = .ok (.aload_n 0, 1) := by decide +kernel
theorem dX4_readPlain_12 : decode cX4_readPlain 12 = .ok (.invokevirtual 65, 3) := by decide +kernel
theorem dX4_readPlain_15 : decode cX4_readPlain 15 = .ok (.sipush 2002, 3) := by decide +kernel
theorem dX4_readPlain_18 : decode cX4_readPlain 18 = .ok (.if_icmp .ne 29, 3) := by decide +kernel
theorem dX4_readPlain_21 : decode cX4_readPlain 21 = .ok (.aload_n 0, 1) := by decide +kernel
theorem dX4_readPlain_22 : decode cX4_readPlain 22 = .ok (.dup, 1) := by decide +kernel
theorem dX4_readPlain_23 : decode cX4_readPlain 23 = .ok (.getfield 31, 3) := by decide +kernel
theorem dX4_readPlain_26 : decode cX4_readPlain 26 = .ok (.iconst 1, 1) := by decide +kernel
theorem dX4_readPlain_27 : decode cX4_readPlain 27 = .ok (.iadd, 1) := by decide +kernel
theorem dX4_readPlain_28 : decode cX4_readPlain 28 = .ok (.putfield 31, 3) := by decide +kernel
theorem dX4_readPlain_31 : decode cX4_readPlain 31 = .ok (.iload_n 2, 1) := by decide +kernel
theorem dX4_readPlain_32 : decode cX4_readPlain 32 = .ok (.ifCond .ne 7, 3) := by decide +kernel
theorem dX4_readPlain_35 : decode cX4_readPlain 35 = .ok (.iconst 1, 1) := by decide +kernel
theorem dX4_readPlain_36 : decode cX4_readPlain 36 = .ok (.goto 4, 3) := by decide +kernel
theorem dX4_readPlain_39 : decode cX4_readPlain 39 = .ok (.iconst 0, 1) := by decide +kernel
theorem dX4_readPlain_40 : decode cX4_readPlain 40 = .ok (.istore_n 2, 1) := by decide +kernel
theorem dX4_readPlain_41 : decode cX4_readPlain 41 = .ok (.iinc 3 1, 3) := by decide +kernel
theorem dX4_readPlain_44 : decode cX4_readPlain 44 = .ok (.goto (-40), 3) := by decide +kernel
theorem dX4_readPlain_47 : decode cX4_readPlain 47 = .ok (.aload_n 0, 1) := by decide +kernel
theorem dX4_readPlain_48 : decode cX4_readPlain 48 = .ok (.invokevirtual 65, 3) := by decide +kernel
theorem dX4_readPlain_51 : decode cX4_readPlain 51 = .ok (.sipush 3040, 3) := by decide +kernel
theorem dX4_readPlain_54 : decode cX4_readPlain 54 = .ok (.if_icmp .ne 56, 3) := by decide +kernel
theorem dX4_readPlain_57 : decode cX4_readPlain 57 = .ok (.iload_n 1, 1) := by decide +kernel
theorem dX4_readPlain_58 : decode cX4_readPlain 58 = .ok (.bipush 8, 2) := by decide +kernel
theorem dX4_readPlain_60 : decode cX4_readPlain 60 = .ok (.if_icmp .lt 5, 3) := by decide +kernel
theorem dX4_readPlain_63 : decode cX4_readPlain 63 = .ok (.iconst 0, 1) := by decide +kernel
theorem dX4_readPlain_64 : decode cX4_readPlain 64 = .ok (.ireturn, 1) := by decide +kernel
theorem dX4_readPlain_65 : decode cX4_readPlain 65 = .ok (.aload_n 0, 1) := by decide +kernel
theorem dX4_readPlain_66 : decode cX4_readPlain 66 = .ok (.dup, 1) := by decide +kernel
theorem dX4_readPlain_67 : decode cX4_readPlain 67 = .ok (.getfield 31, 3) := by decide +kernel
theorem dX4_readPlain_70 : decode cX4_readPlain 70 = .ok (.iconst 1, 1) := by decide +kernel
theorem dX4_readPlain_71 : decode cX4_readPlain 71 = .ok (.iadd, 1) := by decide +kernel
theorem dX4_readPlain_72 : decode cX4_readPlain 72 = .ok (.putfield 31, 3) := by decide +kernel
theorem dX4_readPlain_75 : decode cX4_readPlain 75 = .ok (.aload_n 0, 1) := by decide +kernel
theorem dX4_readPlain_76 : decode cX4_readPlain 76 = .ok (.iload_n 1, 1) := by decide +kernel
theorem dX4_readPlain_77 : decode cX4_readPlain 77 = .ok (.iconst 1, 1) := by decide +kernel
theorem dX4_readPlain_78 : decode cX4_readPlain 78 = .ok (.iadd, 1) := by decide +kernel
theorem dX4_readPlain_79 : decode cX4_readPlain 79 = .ok (.invokevirtual 68, 3) := by decide +kernel
theorem dX4_readPlain_82 : decode cX4_readPlain 82 = .ok (.ifCond .eq 13, 3) := by decide +kernel
theorem dX4_readPlain_85 : decode cX4_readPlain 85 = .ok (.aload_n 0, 1) := by decide +kernel
theorem dX4_readPlain_86 : decode cX4_readPlain 86 = .ok (.invokevirtual 65, 3) := by decide +kernel
theorem dX4_readPlain_89 : decode cX4_readPlain 89 = .ok (.sipush 3041, 3) := by decide +kernel
theorem dX4_readPlain_92 : decode cX4_readPlain 92 = .ok (.if_icmp .eq 5, 3) := by decide +kernel
theorem dX4_readPlain_95 : decode cX4_readPlain 95 = .ok (.iconst 0, 1) := by decide +kernel
theorem dX4_readPlain_96 : decode cX4_readPlain 96 = .ok (.ireturn, 1) := by decide +kernel
theorem dX4_readPlain_97 : decode cX4_readPlain 97 = .ok (.aload_n 0, 1) := by decide +kernel
theorem dX4_readPlain_98 : decode cX4_readPlain 98 = .ok (.dup, 1) := by decide +kernel
theorem dX4_readPlain_99 : decode cX4_readPlain 99 = .ok (.getfield 31, 3) := by decide +kernel
theorem dX4_readPlain_102 : decode cX4_readPlain 102 = .ok (.iconst 1, 1) := by decide +kernel
theorem dX4_readPlain_103 : decode cX4_readPlain 103 = .ok (.iadd, 1) := by decide +kernel
theorem dX4_readPlain_104 : decode cX4_readPlain 104 = .ok (.putfield 31, 3) := by decide +kernel
theorem dX4_readPlain_107 : decode cX4_readPlain 107 = .ok (.goto 97, 3) := by decide +kernel
theorem dX4_readPlain_110 : decode cX4_readPlain 110 = .ok (.aload_n 0, 1) := by decide +kernel
theorem dX4_readPlain_111 : decode cX4_readPlain 111 = .ok (.iload_n 1, 1) := by decide +kernel
theorem dX4_readPlain_112 : decode cX4_readPlain 112 = .ok (.invokevirtual 107, 3) := by decide +kernel
theorem dX4_readPlain_115 : decode cX4_readPlain 115 = .ok (.ifCond .ne 5, 3) := by decide +kernel
theorem dX4_readPlain_118 : decode cX4_readPlain 118 = .ok (.iconst 0, 1) := by decide +kernel
theorem dX4_readPlain_119 : decode cX4_readPlain 119 = .ok (.ireturn, 1) := by decide +kernel
theorem dX4_readPlain_120 : decode cX4_readPlain 120 = .ok (.aload_n 0, 1) := by decide +kernel
theorem dX4_readPlain_121 : decode cX4_readPlain 121 = .ok (.invokevirtual 65, 3) := by decide +kernel
theorem dX4_readPlain_124 : decode cX4_readPlain 124 = .ok (.sipush 3060, 3) := by decide +kernel
theorem dX4_readPlain_127 : decode cX4_readPlain 127 = .ok (.if_icmp .ne 8, 3) := by decide +kernel
theorem dX4_readPlain_130 : decode cX4_readPlain 130 = .ok (.bipush 10, 2) := by decide +kernel
theorem dX4_readPlain_132 : decode cX4_readPlain 132 = .ok (.goto 34, 3) := by decide +kernel
theorem dX4_readPlain_135 : decode cX4_readPlain 135 = .ok (.aload_n 0, 1) := by decide +kernel
theorem dX4_readPlain_136 : decode cX4_readPlain 136 = .ok (.invokevirtual 65, 3) := by decide +kernel
theorem dX4_readPlain_139 : decode cX4_readPlain 139 = .ok (.sipush 3062, 3) := by decide +kernel
theorem dX4_readPlain_142 : decode cX4_readPlain 142 = .ok (.if_icmp .ne 8, 3) := by decide +kernel
theorem dX4_readPlain_145 : decode cX4_readPlain 145 = .ok (.bipush 11, 2) := by decide +kernel
theorem dX4_readPlain_147 : decode cX4_readPlain 147 = .ok (.goto 19, 3) := by decide +kernel
theorem dX4_readPlain_150 : decode cX4_readPlain 150 = .ok (.aload_n 0, 1) := by decide +kernel
theorem dX4_readPlain_151 : decode cX4_readPlain 151 = .ok (.invokevirtual 65, 3) := by decide +kernel
theorem dX4_readPlain_154 : decode cX4_readPlain 154 = .ok (.sipush 3061, 3) := by decide +kernel
theorem dX4_readPlain_157 : decode cX4_readPlain 157 = .ok (.if_icmp .ne 8, 3) := by decide +kernel
theorem dX4_readPlain_160 : decode cX4_readPlain 160 = .ok (.bipush 12, 2) := by decide +kernel
theorem dX4_readPlain_162 : decode cX4_readPlain 162 = .ok (.goto 4, 3) := by decide +kernel
theorem dX4_readPlain_165 : decode cX4_readPlain 165 = .ok (.iconst (-1), 1) := by decide +kernel
theorem dX4_readPlain_166 : decode cX4_readPlain 166 = .ok (.istore_n 3, 1) := by decide +kernel
theorem dX4_readPlain_167 : decode cX4_readPlain 167 = .ok (.iload_n 3, 1) := by decide +kernel
theorem dX4_readPlain_168 : decode cX4_readPlain 168 = .ok (.iconst (-1), 1) := by decide +kernel
theorem dX4_readPlain_169 : decode cX4_readPlain 169 = .ok (.if_icmp .ne 5, 3) := by decide +kernel
theorem dX4_readPlain_172 : decode cX4_readPlain 172 = .ok (.iconst 0, 1) := by decide +kernel
theorem dX4_readPlain_173 : decode cX4_readPlain 173 = .ok (.ireturn, 1) := by decide +kernel
theorem dX4_readPlain_174 : decode cX4_readPlain 174 = .ok (.aload_n 0, 1) := by decide +kernel
theorem dX4_readPlain_175 : decode cX4_readPlain 175 = .ok (.dup, 1) := by decide +kernel
theorem dX4_readPlain_176 : decode cX4_readPlain 176 = .ok (.getfield 31, 3) := by decide +kernel
theorem dX4_readPlain_179 : decode cX4_readPlain 179 = .ok (.iconst 1, 1) := by decide +kernel
theorem dX4_readPlain_180 : decode cX4_readPlain 180 = .ok (.iadd, 1) := by decide +kernel
theorem dX4_readPlain_181 : decode cX4_readPlain 181 = .ok (.putfield 31, 3) := by decide +kernel
theorem dX4_readPlain_184 : decode cX4_readPlain 184 = .ok (.aload_n 0, 1) := by decide +kernel
theorem dX4_readPlain_185 : decode cX4_readPlain 185 = .ok (.iload_n 1, 1) := by decide +kernel
theorem dX4_readPlain_186 : decode cX4_readPlain 186 = .ok (.invokevirtual 107, 3) := by decide +kernel
theorem dX4_readPlain_189 : decode cX4_readPlain 189 = .ok (.ifCond .ne 5, 3) := by decide +kernel
theorem dX4_readPlain_192 : decode cX4_readPlain 192 = .ok (.iconst 0, 1) := by decide +kernel
theorem dX4_readPlain_193 : decode cX4_readPlain 193 = .ok (.ireturn, 1) := by decide +kernel
theorem dX4_readPlain_194 : decode cX4_readPlain 194 = .ok (.aload_n 0, 1) := by decide +kernel
theorem dX4_readPlain_195 : decode cX4_readPlain 195 = .ok (.getfield 16, 3) := by decide +kernel
theorem dX4_readPlain_198 : decode cX4_readPlain 198 = .ok (.iload_n 3, 1) := by decide +kernel
theorem dX4_readPlain_199 : decode cX4_readPlain 199 = .ok (.iconst 0, 1) := by decide +kernel
theorem dX4_readPlain_200 : decode cX4_readPlain 200 = .ok (.invokevirtual 122, 3) := by decide +kernel
theorem dX4_readPlain_203 : decode cX4_readPlain 203 = .ok (.pop, 1) := by decide +kernel
theorem dX4_readPlain_204 : decode cX4_readPlain 204 = .ok (.aload_n 0, 1) := by decide +kernel
theorem dX4_readPlain_205 : decode cX4_readPlain 205 = .ok (.iload_n 2, 1) := by decide +kernel
theorem dX4_readPlain_206 : decode cX4_readPlain 206 = .ok (.ifCond .eq 7, 3) := by decide +kernel
theorem dX4_readPlain_209 : decode cX4_readPlain 209 = .ok (.iconst 2, 1) := by decide +kernel
theorem dX4_readPlain_210 : decode cX4_readPlain 210 = .ok (.goto 4, 3) := by decide +kernel
theorem dX4_readPlain_213 : decode cX4_readPlain 213 = .ok (.iconst (-1), 1) := by decide +kernel
theorem dX4_readPlain_214 : decode cX4_readPlain 214 = .ok (.invokevirtual 125, 3) := by decide +kernel
theorem dX4_readPlain_217 : decode cX4_readPlain 217 = .ok (.iconst 1, 1) := by decide +kernel
theorem dX4_readPlain_218 : decode cX4_readPlain 218 = .ok (.ireturn, 1) := by decide +kernel
theorem dX4_readSum_0 : decode cX4_readSum 0 = .ok (.iconst (-1), 1) := by decide +kernel
theorem dX4_readSum_1 : decode cX4_readSum 1 = .ok (.istore_n 2, 1) := by decide +kernel
theorem dX4_readSum_2 : decode cX4_readSum 2 = .ok (.iconst 0, 1) := by decide +kernel
theorem dX4_readSum_3 : decode cX4_readSum 3 = .ok (.istore_n 3, 1) := by decide +kernel
theorem dX4_readSum_4 : decode cX4_readSum 4 = .ok (.iload_n 3, 1) := by decide +kernel
theorem dX4_readSum_5 : decode cX4_readSum 5 = .ok (.sipush 400, 3) := by decide +kernel
theorem dX4_readSum_8 : decode cX4_readSum 8 = .ok (.if_icmp .ge 165, 3) := by decide +kernel
theorem dX4_readSum_11 : decode cX4_readSum 11 = .ok (.iconst (-1), 1) := by decide +kernel
theorem dX4_readSum_12 : decode cX4_readSum 12 = .ok (.istore 4, 2) := by decide +kernel
theorem dX4_readSum_14 : decode cX4_readSum 14 = .ok (.iconst 0, 1) := by decide +kernel
theorem dX4_readSum_15 : decode cX4_readSum 15 = .ok (.istore 5, 2) := by decide +kernel
theorem dX4_readSum_17 : decode cX4_readSum 17 = .ok (.iload 5, 2) := by decide +kernel
theorem dX4_readSum_19 : decode cX4_readSum 19 = .ok (.sipush 400, 3) := by decide +kernel
theorem dX4_readSum_22 : decode cX4_readSum 22 = .ok (.if_icmp .ge 92, 3) := by decide +kernel
theorem dX4_readSum_25 : decode cX4_readSum 25 = .ok (.aload_n 0, 1) := by decide +kernel
theorem dX4_readSum_26 : decode cX4_readSum 26 = .ok (.iload_n 1, 1) := by decide +kernel
theorem dX4_readSum_27 : decode cX4_readSum 27 = .ok (.invokevirtual 128, 3) := by decide +kernel
theorem dX4_readSum_30 : decode cX4_readSum 30 = .ok (.ifCond .ne 5, 3) := by decide +kernel
theorem dX4_readSum_33 : decode cX4_readSum 33 = .ok (.iconst 0, 1) := by decide +kernel
theorem dX4_readSum_34 : decode cX4_readSum 34 = .ok (.ireturn, 1) := by decide +kernel
theorem dX4_readSum_35 : decode cX4_readSum 35 = .ok (.aload_n 0, 1) := by decide +kernel
theorem dX4_readSum_36 : decode cX4_readSum 36 = .ok (.iload 4, 2) := by decide +kernel
theorem dX4_readSum_38 : decode cX4_readSum 38 = .ok (.invokevirtual 125, 3) := by decide +kernel
theorem dX4_readSum_41 : decode cX4_readSum 41 = .ok (.aload_n 0, 1) := by decide +kernel
theorem dX4_readSum_42 : decode cX4_readSum 42 = .ok (.invokevirtual 65, 3) := by decide +kernel
theorem dX4_readSum_45 : decode cX4_readSum 45 = .ok (.sipush 3042, 3) := by decide +kernel
theorem dX4_readSum_48 : decode cX4_readSum 48 = .ok (.if_icmp .ne 8, 3) := by decide +kernel
theorem dX4_readSum_51 : decode cX4_readSum 51 = .ok (.bipush 7, 2) := by decide +kernel
theorem dX4_readSum_53 : decode cX4_readSum 53 = .ok (.goto 34, 3) := by decide +kernel
theorem dX4_readSum_56 : decode cX4_readSum 56 = .ok (.aload_n 0, 1) := by decide +kernel
theorem dX4_readSum_57 : decode cX4_readSum 57 = .ok (.invokevirtual 65, 3) := by decide +kernel
theorem dX4_readSum_60 : decode cX4_readSum 60 = .ok (.sipush 3047, 3) := by decide +kernel
theorem dX4_readSum_63 : decode cX4_readSum 63 = .ok (.if_icmp .ne 8, 3) := by decide +kernel
theorem dX4_readSum_66 : decode cX4_readSum 66 = .ok (.bipush 8, 2) := by decide +kernel
theorem dX4_readSum_68 : decode cX4_readSum 68 = .ok (.goto 19, 3) := by decide +kernel
theorem dX4_readSum_71 : decode cX4_readSum 71 = .ok (.aload_n 0, 1) := by decide +kernel
theorem dX4_readSum_72 : decode cX4_readSum 72 = .ok (.invokevirtual 65, 3) := by decide +kernel
theorem dX4_readSum_75 : decode cX4_readSum 75 = .ok (.sipush 3037, 3) := by decide +kernel
theorem dX4_readSum_78 : decode cX4_readSum 78 = .ok (.if_icmp .ne 8, 3) := by decide +kernel
theorem dX4_readSum_81 : decode cX4_readSum 81 = .ok (.bipush 9, 2) := by decide +kernel
theorem dX4_readSum_83 : decode cX4_readSum 83 = .ok (.goto 4, 3) := by decide +kernel
theorem dX4_readSum_86 : decode cX4_readSum 86 = .ok (.iconst (-1), 1) := by decide +kernel
theorem dX4_readSum_87 : decode cX4_readSum 87 = .ok (.istore 4, 2) := by decide +kernel
theorem dX4_readSum_89 : decode cX4_readSum 89 = .ok (.iload 4, 2) := by decide +kernel
theorem dX4_readSum_91 : decode cX4_readSum 91 = .ok (.iconst (-1), 1) := by decide +kernel
theorem dX4_readSum_92 : decode cX4_readSum 92 = .ok (.if_icmp .ne 6, 3) := by decide +kernel
theorem dX4_readSum_95 : decode cX4_readSum 95 = .ok (.goto 19, 3) := by decide +kernel
theorem dX4_readSum_98 : decode cX4_readSum 98 = .ok (.aload_n 0, 1) := by decide +kernel
theorem dX4_readSum_99 : decode cX4_readSum 99 = .ok (.dup, 1) := by decide +kernel
theorem dX4_readSum_100 : decode cX4_readSum 100 = .ok (.getfield 31, 3) := by decide +kernel
theorem dX4_readSum_103 : decode cX4_readSum 103 = .ok (.iconst 1, 1) := by decide +kernel
theorem dX4_readSum_104 : decode cX4_readSum 104 = .ok (.iadd, 1) := by decide +kernel
theorem dX4_readSum_105 : decode cX4_readSum 105 = .ok (.putfield 31, 3) := by decide +kernel
theorem dX4_readSum_108 : decode cX4_readSum 108 = .ok (.iinc 5 1, 3) := by decide +kernel
theorem dX4_readSum_111 : decode cX4_readSum 111 = .ok (.goto (-94), 3) := by decide +kernel
theorem dX4_readSum_114 : decode cX4_readSum 114 = .ok (.aload_n 0, 1) := by decide +kernel
theorem dX4_readSum_115 : decode cX4_readSum 115 = .ok (.iload_n 2, 1) := by decide +kernel
theorem dX4_readSum_116 : decode cX4_readSum 116 = .ok (.invokevirtual 125, 3) := by decide +kernel
theorem dX4_readSum_119 : decode cX4_readSum 119 = .ok (.aload_n 0, 1) := by decide +kernel
theorem dX4_readSum_120 : decode cX4_readSum 120 = .ok (.invokevirtual 65, 3) := by decide +kernel
theorem dX4_readSum_123 : decode cX4_readSum 123 = .ok (.sipush 3043, 3) := by decide +kernel
theorem dX4_readSum_126 : decode cX4_readSum 126 = .ok (.if_icmp .ne 7, 3) := by decide +kernel
theorem dX4_readSum_129 : decode cX4_readSum 129 = .ok (.iconst 5, 1) := by decide +kernel
theorem dX4_readSum_130 : decode cX4_readSum 130 = .ok (.goto 19, 3) := by decide +kernel
theorem dX4_readSum_133 : decode cX4_readSum 133 = .ok (.aload_n 0, 1) := by decide +kernel
theorem dX4_readSum_134 : decode cX4_readSum 134 = .ok (.invokevirtual 65, 3) := by decide +kernel
theorem dX4_readSum_137 : decode cX4_readSum 137 = .ok (.sipush 3045, 3) := by decide +kernel
theorem dX4_readSum_140 : decode cX4_readSum 140 = .ok (.if_icmp .ne 8, 3) := by decide +kernel
theorem dX4_readSum_143 : decode cX4_readSum 143 = .ok (.bipush 6, 2) := by decide +kernel
theorem dX4_readSum_145 : decode cX4_readSum 145 = .ok (.goto 4, 3) := by decide +kernel
theorem dX4_readSum_148 : decode cX4_readSum 148 = .ok (.iconst (-1), 1) := by decide +kernel
theorem dX4_readSum_149 : decode cX4_readSum 149 = .ok (.istore_n 2, 1) := by decide +kernel
theorem dX4_readSum_150 : decode cX4_readSum 150 = .ok (.iload_n 2, 1) := by decide +kernel
theorem dX4_readSum_151 : decode cX4_readSum 151 = .ok (.iconst (-1), 1) := by decide +kernel
theorem dX4_readSum_152 : decode cX4_readSum 152 = .ok (.if_icmp .ne 5, 3) := by decide +kernel
theorem dX4_readSum_155 : decode cX4_readSum 155 = .ok (.iconst 1, 1) := by decide +kernel
theorem dX4_readSum_156 : decode cX4_readSum 156 = .ok (.ireturn, 1) := by decide +kernel
theorem dX4_readSum_157 : decode cX4_readSum 157 = .ok (.aload_n 0, 1) := by decide +kernel
theorem dX4_readSum_158 : decode cX4_readSum 158 = .ok (.dup, 1) := by decide +kernel
theorem dX4_readSum_159 : decode cX4_readSum 159 = .ok (.getfield 31, 3) := by decide +kernel
theorem dX4_readSum_162 : decode cX4_readSum 162 = .ok (.iconst 1, 1) := by decide +kernel
theorem dX4_readSum_163 : decode cX4_readSum 163 = .ok (.iadd, 1) := by decide +kernel
theorem dX4_readSum_164 : decode cX4_readSum 164 = .ok (.putfield 31, 3) := by decide +kernel
theorem dX4_readSum_167 : decode cX4_readSum 167 = .ok (.iinc 3 1, 3) := by decide +kernel
theorem dX4_readSum_170 : decode cX4_readSum 170 = .ok (.goto (-166), 3) := by decide +kernel
theorem dX4_emitIfAny_0 : decode cX4_emitIfAny 0 = .ok (.iload_n 1, 1) := by decide +kernel
theorem dX4_emitIfAny_1 : decode cX4_emitIfAny 1 = .ok (.iconst (-1), 1) := by decide +kernel
theorem dX4_emitIfAny_2 : decode cX4_emitIfAny 2 = .ok (.if_icmp .eq 13, 3) := by decide +kernel
theorem dX4_emitIfAny_5 : decode cX4_emitIfAny 5 = .ok (.aload_n 0, 1) := by decide +kernel
theorem dX4_emitIfAny_6 : decode cX4_emitIfAny 6 = .ok (.getfield 16, 3) := by decide +kernel
theorem dX4_emitIfAny_9 : decode cX4_emitIfAny 9 = .ok (.iload_n 1, 1) := by decide +kernel
theorem dX4_emitIfAny_10 : decode cX4_emitIfAny 10 = .ok (.iconst 0, 1) := by decide +kernel
theorem dX4_emitIfAny_11 : decode cX4_emitIfAny 11 = .ok (.invokevirtual 122, 3) := by decide +kernel
theorem dX4_emitIfAny_14 : decode cX4_emitIfAny 14 = .ok (.pop, 1) := by decide +kernel
theorem dX4_emitIfAny_15 : decode cX4_emitIfAny 15 = .ok (.return_, 1) := by decide +kernel
theorem dX4_readOperand_0 : decode cX4_readOperand 0 = .ok (.aload_n 0, 1) := by decide +kernel
theorem dX4_readOperand_1 : decode cX4_readOperand 1 = .ok (.invokevirtual 65, 3) := by decide +kernel
theorem dX4_readOperand_4 : decode cX4_readOperand 4 = .ok (.istore_n 2, 1) := by decide +kernel
theorem dX4_readOperand_5 : decode cX4_readOperand 5 = .ok (.iload_n 2, 1) := by decide +kernel
theorem dX4_readOperand_6 : decode cX4_readOperand 6 = .ok (.sipush 3091, 3) := by decide +kernel
theorem dX4_readOperand_9 : decode cX4_readOperand 9 = .ok (.if_icmp .ne 55, 3) := by decide +kernel
theorem dX4_readOperand_12 : decode cX4_readOperand 12 = .ok (.iload_n 1, 1) := by decide +kernel
theorem dX4_readOperand_13 : decode cX4_readOperand 13 = .ok (.bipush 8, 2) := by decide +kernel
theorem dX4_readOperand_15 : decode cX4_readOperand 15 = .ok (.if_icmp .lt 5, 3) := by decide +kernel
theorem dX4_readOperand_18 : decode cX4_readOperand 18 = .ok (.iconst 0, 1) := by decide +kernel
theorem dX4_readOperand_19 : decode cX4_readOperand 19 = .ok (.ireturn, 1) := by decide +kernel
theorem dX4_readOperand_20 : decode cX4_readOperand 20 = .ok (.aload_n 0, 1) := by decide +kernel
theorem dX4_readOperand_21 : decode cX4_readOperand 21 = .ok (.dup, 1) := by decide +kernel
theorem dX4_readOperand_22 : decode cX4_readOperand 22 = .ok (.getfield 31, 3) := by decide +kernel
theorem dX4_readOperand_25 : decode cX4_readOperand 25 = .ok (.iconst 1, 1) := by decide +kernel
theorem dX4_readOperand_26 : decode cX4_readOperand 26 = .ok (.iadd, 1) := by decide +kernel
theorem dX4_readOperand_27 : decode cX4_readOperand 27 = .ok (.putfield 31, 3) := by decide +kernel
theorem dX4_readOperand_30 : decode cX4_readOperand 30 = .ok (.aload_n 0, 1) := by decide +kernel
theorem dX4_readOperand_31 : decode cX4_readOperand 31 = .ok (.iload_n 1, 1) := by decide +kernel
theorem dX4_readOperand_32 : decode cX4_readOperand 32 = .ok (.iconst 1, 1) := by decide +kernel
theorem dX4_readOperand_33 : decode cX4_readOperand 33 = .ok (.iadd, 1) := by decide +kernel
theorem dX4_readOperand_34 : decode cX4_readOperand 34 = .ok (.invokevirtual 107, 3) := by decide +kernel
theorem dX4_readOperand_37 : decode cX4_readOperand 37 = .ok (.ifCond .eq 13, 3) := by decide +kernel
theorem dX4_readOperand_40 : decode cX4_readOperand 40 = .ok (.aload_n 0, 1) := by decide +kernel
theorem dX4_readOperand_41 : decode cX4_readOperand 41 = .ok (.invokevirtual 65, 3) := by decide +kernel
theorem dX4_readOperand_44 : decode cX4_readOperand 44 = .ok (.sipush 3093, 3) := by decide +kernel
theorem dX4_readOperand_47 : decode cX4_readOperand 47 = .ok (.if_icmp .eq 5, 3) := by decide +kernel
theorem dX4_readOperand_50 : decode cX4_readOperand 50 = .ok (.iconst 0, 1) := by decide +kernel
theorem dX4_readOperand_51 : decode cX4_readOperand 51 = .ok (.ireturn, 1) := by decide +kernel
theorem dX4_readOperand_52 : decode cX4_readOperand 52 = .ok (.aload_n 0, 1) := by decide +kernel
theorem dX4_readOperand_53 : decode cX4_readOperand 53 = .ok (.dup, 1) := by decide +kernel
theorem dX4_readOperand_54 : decode cX4_readOperand 54 = .ok (.getfield 31, 3) := by decide +kernel
theorem dX4_readOperand_57 : decode cX4_readOperand 57 = .ok (.iconst 1, 1) := by decide +kernel
theorem dX4_readOperand_58 : decode cX4_readOperand 58 = .ok (.iadd, 1) := by decide +kernel
theorem dX4_readOperand_59 : decode cX4_readOperand 59 = .ok (.putfield 31, 3) := by decide +kernel
theorem dX4_readOperand_62 : decode cX4_readOperand 62 = .ok (.iconst 1, 1) := by decide +kernel
theorem dX4_readOperand_63 : decode cX4_readOperand 63 = .ok (.ireturn, 1) := by decide +kernel
theorem dX4_readOperand_64 : decode cX4_readOperand 64 = .ok (.aload_n 0, 1) := by decide +kernel
theorem dX4_readOperand_65 : decode cX4_readOperand 65 = .ok (.getfield 34, 3) := by decide +kernel
theorem dX4_readOperand_68 : decode cX4_readOperand 68 = .ok (.bipush 50, 2) := by decide +kernel
theorem dX4_readOperand_70 : decode cX4_readOperand 70 = .ok (.if_icmp .lt 5, 3) := by decide +kernel
theorem dX4_readOperand_73 : decode cX4_readOperand 73 = .ok (.iconst 0, 1) := by decide +kernel
theorem dX4_readOperand_74 : decode cX4_readOperand 74 = .ok (.ireturn, 1) := by decide +kernel
theorem dX4_readOperand_75 : decode cX4_readOperand 75 = .ok (.aload_n 0, 1) := by decide +kernel
theorem dX4_readOperand_76 : decode cX4_readOperand 76 = .ok (.dup, 1) := by decide +kernel
theorem dX4_readOperand_77 : decode cX4_readOperand 77 = .ok (.getfield 34, 3) := by decide +kernel
theorem dX4_readOperand_80 : decode cX4_readOperand 80 = .ok (.iconst 1, 1) := by decide +kernel
theorem dX4_readOperand_81 : decode cX4_readOperand 81 = .ok (.iadd, 1) := by decide +kernel
theorem dX4_readOperand_82 : decode cX4_readOperand 82 = .ok (.putfield 34, 3) := by decide +kernel
theorem dX4_readOperand_85 : decode cX4_readOperand 85 = .ok (.iload_n 2, 1) := by decide +kernel
theorem dX4_readOperand_86 : decode cX4_readOperand 86 = .ok (.ifCond .lt 32, 3) := by decide +kernel
theorem dX4_readOperand_89 : decode cX4_readOperand 89 = .ok (.iload_n 2, 1) := by decide +kernel
theorem dX4_readOperand_90 : decode cX4_readOperand 90 = .ok (.sipush 1000, 3) := by decide +kernel
theorem dX4_readOperand_93 : decode cX4_readOperand 93 = .ok (.if_icmp .gt 25, 3) := by decide +kernel
theorem dX4_readOperand_96 : decode cX4_readOperand 96 = .ok (.aload_n 0, 1) := by decide +kernel
theorem dX4_readOperand_97 : decode cX4_readOperand 97 = .ok (.dup, 1) := by decide +kernel
theorem dX4_readOperand_98 : decode cX4_readOperand 98 = .ok (.getfield 31, 3) := by decide +kernel
theorem dX4_readOperand_101 : decode cX4_readOperand 101 = .ok (.iconst 1, 1) := by decide +kernel
theorem dX4_readOperand_102 : decode cX4_readOperand 102 = .ok (.iadd, 1) := by decide +kernel
theorem dX4_readOperand_103 : decode cX4_readOperand 103 = .ok (.putfield 31, 3) := by decide +kernel
theorem dX4_readOperand_106 : decode cX4_readOperand 106 = .ok (.aload_n 0, 1) := by decide +kernel
theorem dX4_readOperand_107 : decode cX4_readOperand 107 = .ok (.getfield 16, 3) := by decide +kernel
theorem dX4_readOperand_110 : decode cX4_readOperand 110 = .ok (.iconst 0, 1) := by decide +kernel
theorem dX4_readOperand_111 : decode cX4_readOperand 111 = .ok (.iload_n 2, 1) := by decide +kernel
theorem dX4_readOperand_112 : decode cX4_readOperand 112 = .ok (.invokevirtual 122, 3) := by decide +kernel
theorem dX4_readOperand_115 : decode cX4_readOperand 115 = .ok (.pop, 1) := by decide +kernel
theorem dX4_readOperand_116 : decode cX4_readOperand 116 = .ok (.iconst 1, 1) := by decide +kernel
theorem dX4_readOperand_117 : decode cX4_readOperand 117 = .ok (.ireturn, 1) := by decide +kernel
theorem dX4_readOperand_118 : decode cX4_readOperand 118 = .ok (.aload_n 0, 1) := by decide +kernel
theorem dX4_readOperand_119 : decode cX4_readOperand 119 = .ok (.getfield 37, 3) := by decide +kernel
theorem dX4_readOperand_122 : decode cX4_readOperand 122 = .ok (.ifCond .eq 11, 3) := by decide +kernel
theorem dX4_readOperand_125 : decode cX4_readOperand 125 = .ok (.aload_n 0, 1) := by decide +kernel
theorem dX4_readOperand_126 : decode cX4_readOperand 126 = .ok (.iload_n 2, 1) := by decide +kernel
theorem dX4_readOperand_127 : decode cX4_readOperand 127 = .ok (.invokevirtual 131, 3) := by decide +kernel
theorem dX4_readOperand_130 : decode cX4_readOperand 130 = .ok (.goto 8, 3) := by decide +kernel
theorem dX4_readOperand_133 : decode cX4_readOperand 133 = .ok (.aload_n 0, 1) := by decide +kernel
theorem dX4_readOperand_134 : decode cX4_readOperand 134 = .ok (.iload_n 2, 1) := by decide +kernel
theorem dX4_readOperand_135 : decode cX4_readOperand 135 = .ok (.invokevirtual 135, 3) := by decide +kernel
theorem dX4_readOperand_138 : decode cX4_readOperand 138 = .ok (.istore_n 3, 1) := by decide +kernel
theorem dX4_readOperand_139 : decode cX4_readOperand 139 = .ok (.iload_n 3, 1) := by decide +kernel
theorem dX4_readOperand_140 : decode cX4_readOperand 140 = .ok (.iconst (-1), 1) := by decide +kernel
theorem dX4_readOperand_141 : decode cX4_readOperand 141 = .ok (.if_icmp .ne 5, 3) := by decide +kernel
theorem dX4_readOperand_144 : decode cX4_readOperand 144 = .ok (.iconst 0, 1) := by decide +kernel
theorem dX4_readOperand_145 : decode cX4_readOperand 145 = .ok (.ireturn, 1) := by decide +kernel
theorem dX4_readOperand_146 : decode cX4_readOperand 146 = .ok (.aload_n 0, 1) := by decide +kernel
theorem dX4_readOperand_147 : decode cX4_readOperand 147 = .ok (.getfield 16, 3) := by decide +kernel
theorem dX4_readOperand_150 : decode cX4_readOperand 150 = .ok (.iconst 1, 1) := by decide +kernel
theorem dX4_readOperand_151 : decode cX4_readOperand 151 = .ok (.iload_n 3, 1) := by decide +kernel
theorem dX4_readOperand_152 : decode cX4_readOperand 152 = .ok (.invokevirtual 122, 3) := by decide +kernel
theorem dX4_readOperand_155 : decode cX4_readOperand 155 = .ok (.pop, 1) := by decide +kernel
theorem dX4_readOperand_156 : decode cX4_readOperand 156 = .ok (.iconst 1, 1) := by decide +kernel
theorem dX4_readOperand_157 : decode cX4_readOperand 157 = .ok (.ireturn, 1) := by decide +kernel
theorem dX4_takeLawWord_0 : decode cX4_takeLawWord 0 = .ok (.iload_n 1, 1) := by decide +kernel
theorem dX4_takeLawWord_1 : decode cX4_takeLawWord 1 = .ok (.sipush 2008, 3) := by decide +kernel
theorem dX4_takeLawWord_4 : decode cX4_takeLawWord 4 = .ok (.isub, 1) := by decide +kernel
theorem dX4_takeLawWord_5 : decode cX4_takeLawWord 5 = .ok (.istore_n 2, 1) := by decide +kernel
theorem dX4_takeLawWord_6 : decode cX4_takeLawWord 6 = .ok (.iload_n 2, 1) := by decide +kernel
theorem dX4_takeLawWord_7 : decode cX4_takeLawWord 7 = .ok (.ifCond .lt 9, 3) := by decide +kernel
theorem dX4_takeLawWord_10 : decode cX4_takeLawWord 10 = .ok (.iload_n 2, 1) := by decide +kernel
theorem dX4_takeLawWord_11 : decode cX4_takeLawWord 11 = .ok (.bipush 10, 2) := by decide +kernel
theorem dX4_takeLawWord_13 : decode cX4_takeLawWord 13 = .ok (.if_icmp .lt 5, 3) := by decide +kernel
theorem dX4_takeLawWord_16 : decode cX4_takeLawWord 16 = .ok (.iconst (-1), 1) := by decide +kernel
theorem dX4_takeLawWord_17 : decode cX4_takeLawWord 17 = .ok (.ireturn, 1) := by decide +kernel
theorem dX4_takeLawWord_18 : decode cX4_takeLawWord 18 = .ok (.aload_n 0, 1) := by decide +kernel
theorem dX4_takeLawWord_19 : decode cX4_takeLawWord 19 = .ok (.dup, 1) := by decide +kernel
theorem dX4_takeLawWord_20 : decode cX4_takeLawWord 20 = .ok (.getfield 31, 3) := by decide +kernel
theorem dX4_takeLawWord_23 : decode cX4_takeLawWord 23 = .ok (.iconst 1, 1) := by decide +kernel
theorem dX4_takeLawWord_24 : decode cX4_takeLawWord 24 = .ok (.iadd, 1) := by decide +kernel
theorem dX4_takeLawWord_25 : decode cX4_takeLawWord 25 = .ok (.putfield 31, 3) := by decide +kernel
theorem dX4_takeLawWord_28 : decode cX4_takeLawWord 28 = .ok (.iload_n 2, 1) := by decide +kernel
theorem dX4_takeLawWord_29 : decode cX4_takeLawWord 29 = .ok (.ireturn, 1) := by decide +kernel
theorem dX4_takeOrderWord_0 : decode cX4_takeOrderWord 0 = .ok (.iload_n 1, 1) := by decide +kernel
theorem dX4_takeOrderWord_1 : decode cX4_takeOrderWord 1 = .ok (.sipush 2016, 3) := by decide +kernel
theorem dX4_takeOrderWord_4 : decode cX4_takeOrderWord 4 = .ok (.if_icmp .ne 7, 3) := by decide +kernel
theorem dX4_takeOrderWord_7 : decode cX4_takeOrderWord 7 = .ok (.iconst 0, 1) := by decide +kernel
theorem dX4_takeOrderWord_8 : decode cX4_takeOrderWord 8 = .ok (.goto 37, 3) := by decide +kernel
theorem dX4_takeOrderWord_11 : decode cX4_takeOrderWord 11 = .ok (.iload_n 1, 1) := by decide +kernel
theorem dX4_takeOrderWord_12 : decode cX4_takeOrderWord 12 = .ok (.sipush 2024, 3) := by decide +kernel
theorem dX4_takeOrderWord_15 : decode cX4_takeOrderWord 15 = .ok (.if_icmp .ne 7, 3) := by decide +kernel
theorem dX4_takeOrderWord_18 : decode cX4_takeOrderWord 18 = .ok (.iconst 1, 1) := by decide +kernel
theorem dX4_takeOrderWord_19 : decode cX4_takeOrderWord 19 = .ok (.goto 26, 3) := by decide +kernel
theorem dX4_takeOrderWord_22 : decode cX4_takeOrderWord 22 = .ok (.iload_n 1, 1) := by decide +kernel
theorem dX4_takeOrderWord_23 : decode cX4_takeOrderWord 23 = .ok (.sipush 2025, 3) := by decide +kernel
theorem dX4_takeOrderWord_26 : decode cX4_takeOrderWord 26 = .ok (.if_icmp .ne 7, 3) := by decide +kernel
theorem dX4_takeOrderWord_29 : decode cX4_takeOrderWord 29 = .ok (.iconst 2, 1) := by decide +kernel
theorem dX4_takeOrderWord_30 : decode cX4_takeOrderWord 30 = .ok (.goto 15, 3) := by decide +kernel
theorem dX4_takeOrderWord_33 : decode cX4_takeOrderWord 33 = .ok (.iload_n 1, 1) := by decide +kernel
theorem dX4_takeOrderWord_34 : decode cX4_takeOrderWord 34 = .ok (.sipush 2026, 3) := by decide +kernel
theorem dX4_takeOrderWord_37 : decode cX4_takeOrderWord 37 = .ok (.if_icmp .ne 7, 3) := by decide +kernel
theorem dX4_takeOrderWord_40 : decode cX4_takeOrderWord 40 = .ok (.iconst 3, 1) := by decide +kernel
theorem dX4_takeOrderWord_41 : decode cX4_takeOrderWord 41 = .ok (.goto 4, 3) := by decide +kernel
theorem dX4_takeOrderWord_44 : decode cX4_takeOrderWord 44 = .ok (.iconst (-1), 1) := by decide +kernel
theorem dX4_takeOrderWord_45 : decode cX4_takeOrderWord 45 = .ok (.istore_n 2, 1) := by decide +kernel
theorem dX4_takeOrderWord_46 : decode cX4_takeOrderWord 46 = .ok (.iload_n 2, 1) := by decide +kernel
theorem dX4_takeOrderWord_47 : decode cX4_takeOrderWord 47 = .ok (.iconst (-1), 1) := by decide +kernel
theorem dX4_takeOrderWord_48 : decode cX4_takeOrderWord 48 = .ok (.if_icmp .eq 15, 3) := by decide +kernel
theorem dX4_takeOrderWord_51 : decode cX4_takeOrderWord 51 = .ok (.aload_n 0, 1) := by decide +kernel
theorem dX4_takeOrderWord_52 : decode cX4_takeOrderWord 52 = .ok (.dup, 1) := by decide +kernel
theorem dX4_takeOrderWord_53 : decode cX4_takeOrderWord 53 = .ok (.getfield 31, 3) := by decide +kernel
theorem dX4_takeOrderWord_56 : decode cX4_takeOrderWord 56 = .ok (.iconst 1, 1) := by decide +kernel
theorem dX4_takeOrderWord_57 : decode cX4_takeOrderWord 57 = .ok (.iadd, 1) := by decide +kernel
theorem dX4_takeOrderWord_58 : decode cX4_takeOrderWord 58 = .ok (.putfield 31, 3) := by decide +kernel
theorem dX4_takeOrderWord_61 : decode cX4_takeOrderWord 61 = .ok (.iload_n 2, 1) := by decide +kernel
theorem dX4_takeOrderWord_62 : decode cX4_takeOrderWord 62 = .ok (.ireturn, 1) := by decide +kernel
theorem dX4_takeOrderWord_63 : decode cX4_takeOrderWord 63 = .ok (.iload_n 1, 1) := by decide +kernel
theorem dX4_takeOrderWord_64 : decode cX4_takeOrderWord 64 = .ok (.sipush 2014, 3) := by decide +kernel
theorem dX4_takeOrderWord_67 : decode cX4_takeOrderWord 67 = .ok (.if_icmp .ne 7, 3) := by decide +kernel
theorem dX4_takeOrderWord_70 : decode cX4_takeOrderWord 70 = .ok (.iconst 4, 1) := by decide +kernel
theorem dX4_takeOrderWord_71 : decode cX4_takeOrderWord 71 = .ok (.goto 28, 3) := by decide +kernel
theorem dX4_takeOrderWord_74 : decode cX4_takeOrderWord 74 = .ok (.iload_n 1, 1) := by decide +kernel
theorem dX4_takeOrderWord_75 : decode cX4_takeOrderWord 75 = .ok (.sipush 2010, 3) := by decide +kernel
theorem dX4_takeOrderWord_78 : decode cX4_takeOrderWord 78 = .ok (.if_icmp .ne 8, 3) := by decide +kernel
theorem dX4_takeOrderWord_81 : decode cX4_takeOrderWord 81 = .ok (.bipush 14, 2) := by decide +kernel
theorem dX4_takeOrderWord_83 : decode cX4_takeOrderWord 83 = .ok (.goto 16, 3) := by decide +kernel
theorem dX4_takeOrderWord_86 : decode cX4_takeOrderWord 86 = .ok (.iload_n 1, 1) := by decide +kernel
theorem dX4_takeOrderWord_87 : decode cX4_takeOrderWord 87 = .ok (.sipush 2027, 3) := by decide +kernel
theorem dX4_takeOrderWord_90 : decode cX4_takeOrderWord 90 = .ok (.if_icmp .ne 8, 3) := by decide +kernel
theorem dX4_takeOrderWord_93 : decode cX4_takeOrderWord 93 = .ok (.bipush 20, 2) := by decide +kernel
theorem dX4_takeOrderWord_95 : decode cX4_takeOrderWord 95 = .ok (.goto 4, 3) := by decide +kernel
theorem dX4_takeOrderWord_98 : decode cX4_takeOrderWord 98 = .ok (.iconst (-1), 1) := by decide +kernel
theorem dX4_takeOrderWord_99 : decode cX4_takeOrderWord 99 = .ok (.istore_n 3, 1) := by decide +kernel
theorem dX4_takeOrderWord_100 : decode cX4_takeOrderWord 100 = .ok (.iload_n 3, 1) := by decide +kernel
theorem dX4_takeOrderWord_101 : decode cX4_takeOrderWord 101 = .ok (.iconst (-1), 1) := by decide +kernel
theorem dX4_takeOrderWord_102 : decode cX4_takeOrderWord 102 = .ok (.if_icmp .ne 5, 3) := by decide +kernel
theorem dX4_takeOrderWord_105 : decode cX4_takeOrderWord 105 = .ok (.iconst (-1), 1) := by decide +kernel
theorem dX4_takeOrderWord_106 : decode cX4_takeOrderWord 106 = .ok (.ireturn, 1) := by decide +kernel
theorem dX4_takeOrderWord_107 : decode cX4_takeOrderWord 107 = .ok (.aload_n 0, 1) := by decide +kernel
theorem dX4_takeOrderWord_108 : decode cX4_takeOrderWord 108 = .ok (.dup, 1) := by decide +kernel
theorem dX4_takeOrderWord_109 : decode cX4_takeOrderWord 109 = .ok (.getfield 31, 3) := by decide +kernel
theorem dX4_takeOrderWord_112 : decode cX4_takeOrderWord 112 = .ok (.iconst 1, 1) := by decide +kernel
theorem dX4_takeOrderWord_113 : decode cX4_takeOrderWord 113 = .ok (.iadd, 1) := by decide +kernel
theorem dX4_takeOrderWord_114 : decode cX4_takeOrderWord 114 = .ok (.putfield 31, 3) := by decide +kernel
theorem dX4_takeOrderWord_117 : decode cX4_takeOrderWord 117 = .ok (.aload_n 0, 1) := by decide +kernel
theorem dX4_takeOrderWord_118 : decode cX4_takeOrderWord 118 = .ok (.invokevirtual 65, 3) := by decide +kernel
theorem dX4_takeOrderWord_121 : decode cX4_takeOrderWord 121 = .ok (.istore 4, 2) := by decide +kernel
theorem dX4_takeOrderWord_123 : decode cX4_takeOrderWord 123 = .ok (.iload 4, 2) := by decide +kernel
theorem dX4_takeOrderWord_125 : decode cX4_takeOrderWord 125 = .ok (.ifCond .lt 20, 3) := by decide +kernel
theorem dX4_takeOrderWord_128 : decode cX4_takeOrderWord 128 = .ok (.iload 4, 2) := by decide +kernel
theorem dX4_takeOrderWord_130 : decode cX4_takeOrderWord 130 = .ok (.iload_n 3, 1) := by decide +kernel
theorem dX4_takeOrderWord_131 : decode cX4_takeOrderWord 131 = .ok (.iconst 4, 1) := by decide +kernel
theorem dX4_takeOrderWord_132 : decode cX4_takeOrderWord 132 = .ok (.if_icmp .ne 8, 3) := by decide +kernel
theorem dX4_takeOrderWord_135 : decode cX4_takeOrderWord 135 = .ok (.bipush 10, 2) := by decide +kernel
theorem dX4_takeOrderWord_137 : decode cX4_takeOrderWord 137 = .ok (.goto 5, 3) := by decide +kernel
theorem dX4_takeOrderWord_140 : decode cX4_takeOrderWord 140 = .ok (.bipush 6, 2) := by decide +kernel
theorem dX4_takeOrderWord_142 : decode cX4_takeOrderWord 142 = .ok (.if_icmp .lt 5, 3) := by decide +kernel
theorem dX4_takeOrderWord_145 : decode cX4_takeOrderWord 145 = .ok (.iconst (-1), 1) := by decide +kernel
theorem dX4_takeOrderWord_146 : decode cX4_takeOrderWord 146 = .ok (.ireturn, 1) := by decide +kernel
theorem dX4_takeOrderWord_147 : decode cX4_takeOrderWord 147 = .ok (.aload_n 0, 1) := by decide +kernel
theorem dX4_takeOrderWord_148 : decode cX4_takeOrderWord 148 = .ok (.dup, 1) := by decide +kernel
theorem dX4_takeOrderWord_149 : decode cX4_takeOrderWord 149 = .ok (.getfield 31, 3) := by decide +kernel
theorem dX4_takeOrderWord_152 : decode cX4_takeOrderWord 152 = .ok (.iconst 1, 1) := by decide +kernel
theorem dX4_takeOrderWord_153 : decode cX4_takeOrderWord 153 = .ok (.iadd, 1) := by decide +kernel
theorem dX4_takeOrderWord_154 : decode cX4_takeOrderWord 154 = .ok (.putfield 31, 3) := by decide +kernel
theorem dX4_takeOrderWord_157 : decode cX4_takeOrderWord 157 = .ok (.iload_n 3, 1) := by decide +kernel
theorem dX4_takeOrderWord_158 : decode cX4_takeOrderWord 158 = .ok (.iload 4, 2) := by decide +kernel
theorem dX4_takeOrderWord_160 : decode cX4_takeOrderWord 160 = .ok (.iadd, 1) := by decide +kernel
theorem dX4_takeOrderWord_161 : decode cX4_takeOrderWord 161 = .ok (.ireturn, 1) := by decide +kernel
theorem dX10_open_0 : decode cX10_open 0 = .ok (.aload_n 0, 1) := by decide +kernel
theorem dX10_open_1 : decode cX10_open 1 = .ok (.getfield 9, 3) := by decide +kernel
theorem dX10_open_4 : decode cX10_open 4 = .ok (.ifCond .lt 12, 3) := by decide +kernel
theorem dX10_open_7 : decode cX10_open 7 = .ok (.aload_n 0, 1) := by decide +kernel
theorem dX10_open_8 : decode cX10_open 8 = .ok (.getfield 9, 3) := by decide +kernel
theorem dX10_open_11 : decode cX10_open 11 = .ok (.bipush 12, 2) := by decide +kernel
theorem dX10_open_13 : decode cX10_open 13 = .ok (.if_icmp .lt 5, 3) := by decide +kernel
theorem dX10_open_18 : decode cX10_open 18 = .ok (.aload_n 0, 1) := by decide +kernel
theorem dX10_open_19 : decode cX10_open 19 = .ok (.getfield 15, 3) := by decide +kernel
theorem dX10_open_22 : decode cX10_open 22 = .ok (.aload_n 0, 1) := by decide +kernel
theorem dX10_open_23 : decode cX10_open 23 = .ok (.getfield 9, 3) := by decide +kernel
theorem dX10_open_26 : decode cX10_open 26 = .ok (.iload_n 1, 1) := by decide +kernel
theorem dX10_open_27 : decode cX10_open 27 = .ok (.iastore, 1) := by decide +kernel
theorem dX10_open_28 : decode cX10_open 28 = .ok (.aload_n 0, 1) := by decide +kernel
theorem dX10_open_29 : decode cX10_open 29 = .ok (.getfield 19, 3) := by decide +kernel
theorem dX10_open_32 : decode cX10_open 32 = .ok (.aload_n 0, 1) := by decide +kernel
theorem dX10_open_33 : decode cX10_open 33 = .ok (.getfield 9, 3) := by decide +kernel
theorem dX10_open_36 : decode cX10_open 36 = .ok (.iconst 1, 1) := by decide +kernel
theorem dX10_open_37 : decode cX10_open 37 = .ok (.iastore, 1) := by decide +kernel
theorem dX10_open_38 : decode cX10_open 38 = .ok (.aload_n 0, 1) := by decide +kernel
theorem dX10_open_39 : decode cX10_open 39 = .ok (.dup, 1) := by decide +kernel
theorem dX10_open_40 : decode cX10_open 40 = .ok (.getfield 9, 3) := by decide +kernel
theorem dX10_open_43 : decode cX10_open 43 = .ok (.iconst 1, 1) := by decide +kernel
theorem dX10_open_44 : decode cX10_open 44 = .ok (.iadd, 1) := by decide +kernel
theorem dX10_open_45 : decode cX10_open 45 = .ok (.putfield 9, 3) := by decide +kernel
theorem dX10_open_48 : decode cX10_open 48 = .ok (.iconst 1, 1) := by decide +kernel
theorem dX10_open_49 : decode cX10_open 49 = .ok (.ireturn, 1) := by decide +kernel
theorem dX10_repeat_0 : decode cX10_repeat 0 = .ok (.aload_n 0, 1) := by decide +kernel
theorem dX10_repeat_1 : decode cX10_repeat 1 = .ok (.getfield 9, 3) := by decide +kernel
theorem dX10_repeat_4 : decode cX10_repeat 4 = .ok (.ifCond .le 24, 3) := by decide +kernel
theorem dX10_repeat_7 : decode cX10_repeat 7 = .ok (.aload_n 0, 1) := by decide +kernel
theorem dX10_repeat_8 : decode cX10_repeat 8 = .ok (.getfield 9, 3) := by decide +kernel
theorem dX10_repeat_11 : decode cX10_repeat 11 = .ok (.bipush 12, 2) := by decide +kernel
theorem dX10_repeat_13 : decode cX10_repeat 13 = .ok (.if_icmp .gt 15, 3) := by decide +kernel
theorem dX10_repeat_16 : decode cX10_repeat 16 = .ok (.aload_n 0, 1) := by decide +kernel
theorem dX10_repeat_17 : decode cX10_repeat 17 = .ok (.getfield 19, 3) := by decide +kernel
theorem dX10_repeat_20 : decode cX10_repeat 20 = .ok (.aload_n 0, 1) := by decide +kernel
theorem dX10_repeat_21 : decode cX10_repeat 21 = .ok (.getfield 9, 3) := by decide +kernel
theorem dX10_repeat_24 : decode cX10_repeat 24 = .ok (.iconst 1, 1) := by decide +kernel
theorem dX10_repeat_25 : decode cX10_repeat 25 = .ok (.isub, 1) := by decide +kernel
theorem dX10_repeat_26 : decode cX10_repeat 26 = .ok (.iload_n 1, 1) := by decide +kernel
theorem dX10_repeat_27 : decode cX10_repeat 27 = .ok (.iastore, 1) := by decide +kernel
theorem dX10_repeat_28 : decode cX10_repeat 28 = .ok (.return_, 1) := by decide +kernel
theorem dX10_close_0 : decode cX10_close 0 = .ok (.aload_n 0, 1) := by decide +kernel
theorem dX10_close_1 : decode cX10_close 1 = .ok (.getfield 9, 3) := by decide +kernel
theorem dX10_close_4 : decode cX10_close 4 = .ok (.iconst 1, 1) := by decide +kernel
theorem dX10_close_5 : decode cX10_close 5 = .ok (.isub, 1) := by decide +kernel
theorem dX10_close_6 : decode cX10_close 6 = .ok (.iconst 3, 1) := by decide +kernel
theorem dX10_close_7 : decode cX10_close 7 = .ok (.imul, 1) := by decide +kernel
theorem dX10_close_8 : decode cX10_close 8 = .ok (.iload_n 1, 1) := by decide +kernel
theorem dX10_close_9 : decode cX10_close 9 = .ok (.iadd, 1) := by decide +kernel
theorem dX10_close_10 : decode cX10_close 10 = .ok (.iconst 1, 1) := by decide +kernel
theorem dX10_close_11 : decode cX10_close 11 = .ok (.iadd, 1) := by decide +kernel
theorem dX10_close_12 : decode cX10_close 12 = .ok (.istore_n 2, 1) := by decide +kernel
theorem dX10_close_13 : decode cX10_close 13 = .ok (.iload_n 2, 1) := by decide +kernel
theorem dX10_close_14 : decode cX10_close 14 = .ok (.ifCond .le 22, 3) := by decide +kernel
theorem dX10_close_17 : decode cX10_close 17 = .ok (.iload_n 2, 1) := by decide +kernel
theorem dX10_close_18 : decode cX10_close 18 = .ok (.aload_n 0, 1) := by decide +kernel
theorem dX10_close_19 : decode cX10_close 19 = .ok (.getfield 22, 3) := by decide +kernel
theorem dX10_close_22 : decode cX10_close 22 = .ok (.arraylength, 1) := by decide +kernel
theorem dX10_close_23 : decode cX10_close 23 = .ok (.if_icmp .ge 13, 3) := by decide +kernel
theorem dX10_close_26 : decode cX10_close 26 = .ok (.aload_n 0, 1) := by decide +kernel
theorem dX10_close_27 : decode cX10_close 27 = .ok (.getfield 22, 3) := by decide +kernel
theorem dX10_close_30 : decode cX10_close 30 = .ok (.iload_n 2, 1) := by decide +kernel
theorem dX10_close_31 : decode cX10_close 31 = .ok (.aload_n 0, 1) := by decide +kernel
theorem dX10_close_32 : decode cX10_close 32 = .ok (.getfield 25, 3) := by decide +kernel
theorem dX10_close_35 : decode cX10_close 35 = .ok (.iastore, 1) := by decide +kernel
theorem dX10_close_36 : decode cX10_close 36 = .ok (.return_, 1) := by decide +kernel
theorem dX10_emit_0 : decode cX10_emit 0 = .ok (.aload_n 0, 1) := by decide +kernel
theorem dX10_emit_1 : decode cX10_emit 1 = .ok (.getfield 25, 3) := by decide +kernel
theorem dX10_emit_4 : decode cX10_emit 4 = .ok (.ifCond .lt 15, 3) := by decide +kernel
theorem dX10_emit_7 : decode cX10_emit 7 = .ok (.aload_n 0, 1) := by decide +kernel
theorem dX10_emit_8 : decode cX10_emit 8 = .ok (.getfield 25, 3) := by decide +kernel
theorem dX10_emit_11 : decode cX10_emit 11 = .ok (.aload_n 0, 1) := by decide +kernel
theorem dX10_emit_12 : decode cX10_emit 12 = .ok (.getfield 34, 3) := by decide +kernel
theorem dX10_emit_15 : decode cX10_emit 15 = .ok (.arraylength, 1) := by decide +kernel
theorem dX10_emit_16 : decode cX10_emit 16 = .ok (.if_icmp .lt 5, 3) := by decide +kernel
theorem dX10_emit_21 : decode cX10_emit 21 = .ok (.aload_n 0, 1) := by decide +kernel
theorem dX10_emit_22 : decode cX10_emit 22 = .ok (.getfield 34, 3) := by decide +kernel
theorem dX10_emit_25 : decode cX10_emit 25 = .ok (.aload_n 0, 1) := by decide +kernel
theorem dX10_emit_26 : decode cX10_emit 26 = .ok (.getfield 25, 3) := by decide +kernel
theorem dX10_emit_29 : decode cX10_emit 29 = .ok (.iload_n 1, 1) := by decide +kernel
theorem dX10_emit_30 : decode cX10_emit 30 = .ok (.bipush 12, 2) := by decide +kernel
theorem dX10_emit_32 : decode cX10_emit 32 = .ok (.ishl, 1) := by decide +kernel
theorem dX10_emit_33 : decode cX10_emit 33 = .ok (.iload_n 2, 1) := by decide +kernel
theorem dX10_emit_34 : decode cX10_emit 34 = .ok (.sipush 4095, 3) := by decide +kernel
theorem dX10_emit_37 : decode cX10_emit 37 = .ok (.iand, 1) := by decide +kernel
theorem dX10_emit_38 : decode cX10_emit 38 = .ok (.ior, 1) := by decide +kernel
theorem dX10_emit_39 : decode cX10_emit 39 = .ok (.iastore, 1) := by decide +kernel
theorem dX10_emit_40 : decode cX10_emit 40 = .ok (.aload_n 0, 1) := by decide +kernel
theorem dX10_emit_41 : decode cX10_emit 41 = .ok (.dup, 1) := by decide +kernel
theorem dX10_emit_42 : decode cX10_emit 42 = .ok (.getfield 25, 3) := by decide +kernel
theorem dX10_emit_45 : decode cX10_emit 45 = .ok (.iconst 1, 1) := by decide +kernel
theorem dX10_emit_46 : decode cX10_emit 46 = .ok (.iadd, 1) := by decide +kernel
theorem dX10_emit_47 : decode cX10_emit 47 = .ok (.putfield 25, 3) := by decide +kernel
theorem dX10_emit_50 : decode cX10_emit 50 = .ok (.aload_n 0, 1) := by decide +kernel
theorem dX10_emit_51 : decode cX10_emit 51 = .ok (.getfield 25, 3) := by decide +kernel
theorem dX10_emit_54 : decode cX10_emit 54 = .ok (.iconst 1, 1) := by decide +kernel
theorem dX10_emit_55 : decode cX10_emit 55 = .ok (.isub, 1) := by decide +kernel
theorem dX10_emit_56 : decode cX10_emit 56 = .ok (.ireturn, 1) := by decide +kernel
theorem dX10_land_0 : decode cX10_land 0 = .ok (.iload_n 1, 1) := by decide +kernel
theorem dX10_land_1 : decode cX10_land 1 = .ok (.ifCond .lt 45, 3) := by decide +kernel
theorem dX10_land_4 : decode cX10_land 4 = .ok (.iload_n 1, 1) := by decide +kernel
theorem dX10_land_5 : decode cX10_land 5 = .ok (.aload_n 0, 1) := by decide +kernel
theorem dX10_land_6 : decode cX10_land 6 = .ok (.getfield 25, 3) := by decide +kernel
theorem dX10_land_9 : decode cX10_land 9 = .ok (.if_icmp .ge 37, 3) := by decide +kernel
theorem dX10_land_12 : decode cX10_land 12 = .ok (.iload_n 1, 1) := by decide +kernel
theorem dX10_land_13 : decode cX10_land 13 = .ok (.aload_n 0, 1) := by decide +kernel
theorem dX10_land_14 : decode cX10_land 14 = .ok (.getfield 34, 3) := by decide +kernel
theorem dX10_land_17 : decode cX10_land 17 = .ok (.arraylength, 1) := by decide +kernel
theorem dX10_land_18 : decode cX10_land 18 = .ok (.if_icmp .ge 28, 3) := by decide +kernel
theorem dX10_land_21 : decode cX10_land 21 = .ok (.aload_n 0, 1) := by decide +kernel
theorem dX10_land_22 : decode cX10_land 22 = .ok (.getfield 34, 3) := by decide +kernel
theorem dX10_land_25 : decode cX10_land 25 = .ok (.iload_n 1, 1) := by decide +kernel
theorem dX10_land_26 : decode cX10_land 26 = .ok (.aload_n 0, 1) := by decide +kernel
theorem dX10_land_27 : decode cX10_land 27 = .ok (.getfield 34, 3) := by decide +kernel
theorem dX10_land_30 : decode cX10_land 30 = .ok (.iload_n 1, 1) := by decide +kernel
theorem dX10_land_31 : decode cX10_land 31 = .ok (.iaload, 1) := by decide +kernel
theorem dX10_land_32 : decode cX10_land 32 = .ok (.sipush (-4096), 3) := by decide +kernel
theorem dX10_land_35 : decode cX10_land 35 = .ok (.iand, 1) := by decide +kernel
theorem dX10_land_36 : decode cX10_land 36 = .ok (.aload_n 0, 1) := by decide +kernel
theorem dX10_land_37 : decode cX10_land 37 = .ok (.getfield 25, 3) := by decide +kernel
theorem dX10_land_40 : decode cX10_land 40 = .ok (.sipush 4095, 3) := by decide +kernel
theorem dX10_land_43 : decode cX10_land 43 = .ok (.iand, 1) := by decide +kernel
theorem dX10_land_44 : decode cX10_land 44 = .ok (.ior, 1) := by decide +kernel
theorem dX10_land_45 : decode cX10_land 45 = .ok (.iastore, 1) := by decide +kernel
theorem dX10_land_46 : decode cX10_land 46 = .ok (.return_, 1) := by decide +kernel
theorem wt4_17 : Cond.code yX10_emit cX10_emit 3 (some .int) ∈ kG := kt4 17 rfl rfl
theorem wt4_61 : Cond.code yX10_land cX10_land 2 none ∈ kG := kt4 61 rfl rfl
theorem wt4_41 : Cond.code yX10_repeat cX10_repeat 2 none ∈ kG := kt4 41 rfl rfl
theorem wt4_33 : Cond.code yX10_close cX10_close 3 none ∈ kG := kt4 33 rfl rfl
theorem wt4_5 : Cond.code yX10_open cX10_open 2 (some .boolean) ∈ kG := kt4 5 rfl rfl
theorem wt4_1 : Cond.code yX4_inHand cX4_inHand 1 (some .int) ∈ kG := kt4 1 rfl rfl
theorem wt4_14 : Cond.methodLink RX4 122 yX10_emit ∈ kG := kt4 14 rfl rfl
theorem wt4_15 : Cond.instanceMethod yX10_emit ∈ kG := kt4 15 rfl rfl
theorem wt4_16 : Cond.selects RX10 yX10_emit yX10_emit ∈ kG := kt4 16 rfl rfl
theorem wt4_29 : Cond.code yX4_emitIfAny cX4_emitIfAny 2 none ∈ kG := kt4 29 rfl rfl
theorem wt4_25 : Cond.code yX4_takeLawWord cX4_takeLawWord 3 (some .int) ∈ kG := kt4 25 rfl rfl
theorem wt3_238 : Cond.methodLink RX4 65 yX4_inHand ∈ kG := kt3 238 rfl rfl
theorem wt4_0 : Cond.instanceMethod yX4_inHand ∈ kG := kt4 0 rfl rfl
theorem wp1_12 : Cond.selects RX4 yX4_inHand yX4_inHand ∈ kG := kp1 12 rfl rfl
theorem wt4_21 : Cond.code yX4_takeOrderWord cX4_takeOrderWord 5 (some .int) ∈ kG := kt4 21 rfl rfl
theorem wt4_9 : Cond.code yX4_readSum cX4_readSum 6 (some .boolean) ∈ kG := kt4 9 rfl rfl
theorem wt4_13 : Cond.code yX4_readOperand cX4_readOperand 4 (some .boolean) ∈ kG := kt4 13 rfl rfl
theorem wt4_53 : Cond.code yX4_readTest cX4_readTest 6 (some .boolean) ∈ kG := kt4 53 rfl rfl
theorem wt4_57 : Cond.code yX4_readPlain cX4_readPlain 4 (some .boolean) ∈ kG := kt4 57 rfl rfl
theorem wt4_22 : Cond.methodLink RX4 135 yX4_takeLawWord ∈ kG := kt4 22 rfl rfl
theorem wt4_24 : Cond.instanceMethod yX4_takeLawWord ∈ kG := kt4 24 rfl rfl
theorem wp2_0 : Cond.selects RX4 yX4_takeLawWord yX4_takeLawWord ∈ kG := kp2 0 rfl rfl
theorem wt4_6 : Cond.methodLink RX4 107 yX4_readSum ∈ kG := kt4 6 rfl rfl
theorem wt4_8 : Cond.instanceMethod yX4_readSum ∈ kG := kt4 8 rfl rfl
theorem wp1_13 : Cond.selects RX4 yX4_readSum yX4_readSum ∈ kG := kp1 13 rfl rfl
theorem wt4_18 : Cond.methodLink RX4 131 yX4_takeOrderWord ∈ kG := kt4 18 rfl rfl
theorem wt4_20 : Cond.instanceMethod yX4_takeOrderWord ∈ kG := kt4 20 rfl rfl
theorem wp1_15 : Cond.selects RX4 yX4_takeOrderWord yX4_takeOrderWord ∈ kG := kp1 15 rfl rfl
theorem wt4_10 : Cond.methodLink RX4 128 yX4_readOperand ∈ kG := kt4 10 rfl rfl
theorem wt4_12 : Cond.instanceMethod yX4_readOperand ∈ kG := kt4 12 rfl rfl
theorem wp1_14 : Cond.selects RX4 yX4_readOperand yX4_readOperand ∈ kG := kp1 14 rfl rfl
theorem wt4_26 : Cond.methodLink RX4 125 yX4_emitIfAny ∈ kG := kt4 26 rfl rfl
theorem wt4_28 : Cond.instanceMethod yX4_emitIfAny ∈ kG := kt4 28 rfl rfl
theorem wp2_1 : Cond.selects RX4 yX4_emitIfAny yX4_emitIfAny ∈ kG := kp2 1 rfl rfl
theorem wt4_54 : Cond.methodLink RX4 116 yX4_readPlain ∈ kG := kt4 54 rfl rfl
theorem wt4_56 : Cond.instanceMethod yX4_readPlain ∈ kG := kt4 56 rfl rfl
theorem wp2_6 : Cond.selects RX4 yX4_readPlain yX4_readPlain ∈ kG := kp2 6 rfl rfl
theorem wt4_58 : Cond.methodLink RX4 119 yX10_land ∈ kG := kt4 58 rfl rfl
theorem wt4_59 : Cond.instanceMethod yX10_land ∈ kG := kt4 59 rfl rfl
theorem wt4_60 : Cond.selects RX10 yX10_land yX10_land ∈ kG := kt4 60 rfl rfl
theorem wt4_50 : Cond.methodLink RX4 68 yX4_readTest ∈ kG := kt4 50 rfl rfl
theorem wt4_52 : Cond.instanceMethod yX4_readTest ∈ kG := kt4 52 rfl rfl
theorem wp2_5 : Cond.selects RX4 yX4_readTest yX4_readTest ∈ kG := kp2 5 rfl rfl
theorem wt4_38 : Cond.methodLink RX4 113 yX10_repeat ∈ kG := kt4 38 rfl rfl
theorem wt4_39 : Cond.instanceMethod yX10_repeat ∈ kG := kt4 39 rfl rfl
theorem wt4_40 : Cond.selects RX10 yX10_repeat yX10_repeat ∈ kG := kt4 40 rfl rfl
theorem wt4_37 : Cond.code yX4_readTimes cX4_readTimes 2 (some .boolean) ∈ kG := kt4 37 rfl rfl
theorem wt4_2 : Cond.methodLink RX4 104 yX10_open ∈ kG := kt4 2 rfl rfl
theorem wt4_3 : Cond.instanceMethod yX10_open ∈ kG := kt4 3 rfl rfl
theorem wt4_4 : Cond.selects RX10 yX10_open yX10_open ∈ kG := kt4 4 rfl rfl
theorem wt4_30 : Cond.methodLink RX4 72 yX10_close ∈ kG := kt4 30 rfl rfl
theorem wt4_31 : Cond.instanceMethod yX10_close ∈ kG := kt4 31 rfl rfl
theorem wt4_32 : Cond.selects RX10 yX10_close yX10_close ∈ kG := kt4 32 rfl rfl
theorem wt4_34 : Cond.methodLink RX4 110 yX4_readTimes ∈ kG := kt4 34 rfl rfl
theorem wt4_36 : Cond.instanceMethod yX4_readTimes ∈ kG := kt4 36 rfl rfl
theorem wp2_2 : Cond.selects RX4 yX4_readTimes yX4_readTimes ∈ kG := kp2 2 rfl rfl
theorem kc_2000 : kb 2000 2000 2000 := ⟨by decide +kernel, by decide +kernel⟩
theorem kc_2001 : kb 2001 2001 2001 := ⟨by decide +kernel, by decide +kernel⟩
theorem kc_2002 : kb 2002 2002 2002 := ⟨by decide +kernel, by decide +kernel⟩
theorem kc_2004 : kb 2004 2004 2004 := ⟨by decide +kernel, by decide +kernel⟩
theorem kc_2008 : kb 2008 2008 2008 := ⟨by decide +kernel, by decide +kernel⟩
theorem kc_2010 : kb 2010 2010 2010 := ⟨by decide +kernel, by decide +kernel⟩
theorem kc_2014 : kb 2014 2014 2014 := ⟨by decide +kernel, by decide +kernel⟩
theorem kc_2016 : kb 2016 2016 2016 := ⟨by decide +kernel, by decide +kernel⟩
theorem kc_2018 : kb 2018 2018 2018 := ⟨by decide +kernel, by decide +kernel⟩
theorem kc_2022 : kb 2022 2022 2022 := ⟨by decide +kernel, by decide +kernel⟩
theorem kc_2023 : kb 2023 2023 2023 := ⟨by decide +kernel, by decide +kernel⟩
theorem kc_2024 : kb 2024 2024 2024 := ⟨by decide +kernel, by decide +kernel⟩
theorem kc_2025 : kb 2025 2025 2025 := ⟨by decide +kernel, by decide +kernel⟩
theorem kc_2026 : kb 2026 2026 2026 := ⟨by decide +kernel, by decide +kernel⟩
theorem kc_2027 : kb 2027 2027 2027 := ⟨by decide +kernel, by decide +kernel⟩
theorem kc_3037 : kb 3037 3037 3037 := ⟨by decide +kernel, by decide +kernel⟩
theorem kc_3040 : kb 3040 3040 3040 := ⟨by decide +kernel, by decide +kernel⟩
theorem kc_3041 : kb 3041 3041 3041 := ⟨by decide +kernel, by decide +kernel⟩
theorem kc_3042 : kb 3042 3042 3042 := ⟨by decide +kernel, by decide +kernel⟩
theorem kc_3043 : kb 3043 3043 3043 := ⟨by decide +kernel, by decide +kernel⟩
theorem kc_3045 : kb 3045 3045 3045 := ⟨by decide +kernel, by decide +kernel⟩
theorem kc_3047 : kb 3047 3047 3047 := ⟨by decide +kernel, by decide +kernel⟩
theorem kc_3060 : kb 3060 3060 3060 := ⟨by decide +kernel, by decide +kernel⟩
theorem kc_3061 : kb 3061 3061 3061 := ⟨by decide +kernel, by decide +kernel⟩
theorem kc_3062 : kb 3062 3062 3062 := ⟨by decide +kernel, by decide +kernel⟩
theorem kc_3091 : kb 3091 3091 3091 := ⟨by decide +kernel, by decide +kernel⟩
theorem kc_3093 : kb 3093 3093 3093 := ⟨by decide +kernel, by decide +kernel⟩
theorem kc_4000 : kb 4000 4000 4000 := ⟨by decide +kernel, by decide +kernel⟩
theorem kc_401 : kb 401 401 401 := ⟨by decide +kernel, by decide +kernel⟩
set_option maxHeartbeats 4000000 in
set_option maxRecDepth 100000 in
theorem y_emit  (l : Launch) {D : va_G} {K : Nat → ClassId} (r : Nat → Nat) (f : Nat → Int32) (a : Nat → Nat → Int32) (g : xG) (tx tt : va_W) (hT : ∀ c ∈ tt, c ∈ tx) (hI : xI f a) (hG : gOK K g.2 tt) (op : Int32) (x : Int32) (bop : kb 0 op 12) (bx : kb 0 x 4095) (s0 : Nat) (hp0 : (f 1637).toInt = (s0 : Int)) (hp1 : s0 < 400) : kIG l yX10_emit (Cond.code yX10_emit cX10_emit 3 (some .int) :: kG) (rmD 1 0 0) D K [.ref (r 51), .int op, .int x] (xX K r f a g tx) (fun v (u : xS) => kb (-2147483648) v 2147483647 ∧ xI u.1 u.2.1 ∧ gOK K u.2.2.2 tt ∧ xEk ([1637], [55], []) f a g u.1 u.2.1 u.2.2 ∧ v.toInt = (s0 : Int) ∧ (u.1 1637).toInt = ((s0 + 1 : Nat) : Int) ∧ (u.2.1 55 s0).toInt = 4096 * op.toInt + x.toInt ∧ (∀ p, ¬ p = s0 → u.2.1 55 p = a 55 p)) (fun u => xX K r u.1 u.2.1 u.2.2 tx) 0 0 := by
  refine kIE.of (cc := cX10_emit) (maxL := 3) (ret := (some .int)) (by decide) rfl (Nat.le_of_ble_eq_true rfl) ?_
  intro p e s m below meth c A hx hb hr hml hown hts hlocks hnm hK hP hD hS hA hV ls hl
  have hE : xEk ([1637], [55], []) f a g f a g := xEk_rf
  have hg : ∀ w ∈ kG, w.before _ s = true := fun w h => hts w (List.mem_cons_of_mem _ h)
  have hown : s.vm.findClass RX10 = some m.cls := hown
  have hl : lv_has ls 3 [(0, .ref (r 51)), (1, .int op), (2, .int x)] := hl
  obtain ⟨cs, ecs⟩ : ∃ z : Int32, z = f 1637 := ⟨_, rfl⟩
  have hcs : cs.toInt = (s0 : Int) := by rw [ecs]; exact hp0
  have b1 : kb 0 cs 399 := ⟨by omega, by have w1 := hp1; omega⟩
  have hcl : cs.toNatClampNeg = s0 := cl_nat hcs
  refine lv_aload_n hx hb dX10_emit_0 rfl (lv_at hl 0 rfl) ?_
  refine va_get (D := D) (ci := 10) (v := .int (f 1637)) (C := RX10) (T := TX10) (N := 6) hx hb hg inC10 hown hK hP 51 rfl rfl 5 (by decide) (hg _ wt2_50) (fun _ h9 => h9) rfl dX10_emit_1 ?_
  refine k_top (z := cs) ecs.symm ?_
  refine lv_if_lt (tgt := 19) hx hb dX10_emit_4 (by decide) (fun c2 => ?_) (fun c2 => ?_)
  · have h3 := (kc_lt c2)
    exact kb_no (kr_lt1 h3 b1 kc_0 (H := (-1)) (by decide)) (by decide)
  · have h4 := (kc_nlt c2)
    refine lv_aload_n hx hb dX10_emit_7 rfl (lv_at hl 0 rfl) ?_
    refine va_get (D := D) (ci := 10) (v := .int (f 1637)) (C := RX10) (T := TX10) (N := 6) hx hb hg inC10 hown hK hP 51 rfl rfl 5 (by decide) (hg _ wt2_50) (fun _ h9 => h9) rfl dX10_emit_8 ?_
    refine k_top (z := cs) ecs.symm ?_
    refine lv_aload_n hx hb dX10_emit_11 rfl (lv_at hl 0 rfl) ?_
    refine va_get (D := D) (ci := 10) (v := .ref (r 55)) (C := RX10) (T := TX10) (N := 6) hx hb hg inC10 hown hK hP 51 rfl rfl 4 (by decide) (hg _ wt2_49) (fun _ h9 => h9) rfl dX10_emit_12 ?_
    refine va_alen (v := 400) hx hb hK hP 55 0 rfl rfl rfl dX10_emit_15 ?_
    refine lv_icmp_lt (tgt := 21) hx hb dX10_emit_16 (by decide) (fun c5 => ?_) (fun c5 => ?_)
    · have h6 := (kc_lt c5)
      refine lv_aload_n hx hb dX10_emit_21 rfl (lv_at hl 0 rfl) ?_
      refine va_get (D := D) (ci := 10) (v := .ref (r 55)) (C := RX10) (T := TX10) (N := 6) hx hb hg inC10 hown hK hP 51 rfl rfl 4 (by decide) (hg _ wt2_49) (fun _ h9 => h9) rfl dX10_emit_22 ?_
      refine lv_aload_n hx hb dX10_emit_25 rfl (lv_at hl 0 rfl) ?_
      refine va_get (D := D) (ci := 10) (v := .int (f 1637)) (C := RX10) (T := TX10) (N := 6) hx hb hg inC10 hown hK hP 51 rfl rfl 5 (by decide) (hg _ wt2_50) (fun _ h9 => h9) rfl dX10_emit_26 ?_
      refine k_top (z := cs) ecs.symm ?_
      refine lv_iload_n hx hb dX10_emit_29 rfl (lv_at hl 1 rfl) ?_
      refine lv_bipush (v := 12) hx hb dX10_emit_30 (by decide) ?_
      refine lv_ishl hx hb dX10_emit_32 ?_
      refine lv_topi (fun t7 et7 => ?_)
      have b8 : kb 0 t7 49152 := kb_eq et7 (kb_shl12 bop (by decide) (by decide))
      refine lv_iload_n hx hb dX10_emit_33 rfl (lv_at hl 2 rfl) ?_
      refine lv_sipush (v := 4095) hx hb dX10_emit_34 (by decide) ?_
      refine lv_iand hx hb dX10_emit_37 ?_
      refine lv_topi (fun t9 et9 => ?_)
      have b10 : kb 0 t9 4095 := kb_eq et9 (kb_and 12 (by decide) (by decide))
      refine lv_ior hx hb dX10_emit_38 ?_
      refine lv_topi (fun t11 et11 => ?_)
      have b12 : kb 0 t11 65535 := kb_eq et11 (kb_or 16 b8 b10 (by decide) (by decide) (by decide) (by decide) (by decide))
      refine va_iast hx hb hK hP hD hS 55 0 rfl rfl (kb_in b1 (by decide) (by decide)) dX10_emit_39 (fun H locs hP hD hS => ?_)
      have hP : va_P D vwCl (xX K r f (va_up a 55 (upd (a 55) cs.toNatClampNeg t11)) g tx) H := hP
      have hD : va_D A (xX K r f (va_up a 55 (upd (a 55) cs.toNatClampNeg t11)) g tx) := hD
      refine k_gen (P := fun z => va_P D vwCl (xX K r f z g tx) H ∧ va_D A (xX K r f z g tx) ∧ (xI f z) ∧ (gOK K g.2 tt) ∧ (xEk ([1637], [55], []) f a g f z g)) (va_up a 55 (upd (a 55) cs.toNatClampNeg t11)) ⟨hP, hD, (xI_55 hI b12), hG, (xEk_a hE rfl)⟩ (fun a_13 ea_13 hq => ?_)
      obtain ⟨hP, hD, hI, hG, hE⟩ := hq
      refine lv_aload_n hx hb dX10_emit_40 rfl (lv_at hl 0 rfl) ?_
      refine lv_dup hx hb dX10_emit_41 rfl ?_
      refine va_get (D := D) (ci := 10) (v := .int (f 1637)) (C := RX10) (T := TX10) (N := 6) hx hb hg inC10 hown hK hP 51 rfl rfl 5 (by decide) (hg _ wt2_50) (fun _ h9 => h9) rfl dX10_emit_42 ?_
      refine k_top (z := cs) ecs.symm ?_
      refine lv_iconst (v := 1) hx hb dX10_emit_45 (by decide) ?_
      refine lv_iadd hx hb dX10_emit_46 ?_
      refine lv_topi (fun t14 et14 => ?_)
      have b15 : kb 1 t14 400 := kb_eq et14 (kb_add b1 kc_1 (by decide) (by decide))
      have qt14 : t14.toInt = cs.toInt + 1 := by rw [et14]; exact kt_addc b1 kc_1 (by decide) (by decide)
      refine va_put (D := D) (ci := 10) (v := .int t14) (ty := .int) (C := RX10) (T := TX10) (N := 6) hx hb hg inC10 tyX10 tyX10_ok nmX10 hown hK hP hD hS 51 rfl rfl 5 (by decide) (hg _ wt2_50) (fun _ h9 => h9) rfl (by decide +kernel) rfl rfl (Nat.le_of_ble_eq_true rfl) dX10_emit_47 (fun H locs hP hD hS => ?_)
      have hP : va_P D vwCl (xX K r (upd f 1637 t14) a_13 g tx) H := hP
      have hD : va_D A (xX K r (upd f 1637 t14) a_13 g tx) := hD
      refine k_gen (P := fun z => va_P D vwCl (xX K r z a_13 g tx) H ∧ va_D A (xX K r z a_13 g tx) ∧ (xI z a_13) ∧ (gOK K g.2 tt) ∧ (xEk ([1637], [55], []) f a g z a_13 g)) (upd f 1637 t14) ⟨hP, hD, (xI_f hI (fI_st hI.1 1637 b15 (by decide) (by decide))), hG, (xEk_f hE rfl)⟩ (fun f_16 ef_16 hq => ?_)
      obtain ⟨hP, hD, hI, hG, hE⟩ := hq
      refine lv_aload_n hx hb dX10_emit_50 rfl (lv_at hl 0 rfl) ?_
      refine va_get (D := D) (ci := 10) (v := .int (f_16 1637)) (C := RX10) (T := TX10) (N := 6) hx hb hg inC10 hown hK hP 51 rfl rfl 5 (by decide) (hg _ wt2_50) (fun _ h9 => h9) rfl dX10_emit_51 ?_
      refine k_top (z := t14) (show f_16 1637 = t14 from by rw [← ef_16]; rfl) ?_
      refine lv_iconst (v := 1) hx hb dX10_emit_54 (by decide) ?_
      refine lv_isub hx hb dX10_emit_55 ?_
      refine lv_topi (fun t17 et17 => ?_)
      have b18 : kb 0 t17 399 := kb_eq et17 (kb_sub b15 kc_1 (by decide) (by decide))
      have qt17 : t17.toInt = t14.toInt - 1 := by rw [et17]; exact kt_subc b15 kc_1 (by decide) (by decide)
      exact kI_ret (v := t17) hx hb hr hlocks rfl hK hS dX10_emit_56 (f_16, a_13, g) hP hD ⟨(kb_w b18 (by decide) (by decide)), hI, hG, hE, (by have w1 := qt17; have w2 := qt14; omega), (by show (f_16 1637).toInt = ((s0 + 1 : Nat) : Int); rw [(show f_16 1637 = t14 from by rw [← ef_16]; rfl)]; have w1 := qt14; omega), (by show (a_13 55 s0).toInt = _; rw [← hcl, (show a_13 55 cs.toNatClampNeg = t11 from by rw [← ea_13]; exact (pk_us (f := a 55) (k := cs.toNatClampNeg) (x := t11))), et11, et7, et9]; exact em_v bop bx), (fun p hp => by rw [← ea_13]; exact (pk_un (f := a 55) (by rw [hcl]; exact hp)))⟩
    · have h19 := (kc_nlt c5)
      exact kb_no (kr_le1 h19 kc_400 b1) (by decide)
set_option maxHeartbeats 4000000 in
set_option maxRecDepth 100000 in
theorem y_land  (l : Launch) {D : va_G} {K : Nat → ClassId} (r : Nat → Nat) (f : Nat → Int32) (a : Nat → Nat → Int32) (g : xG) (tx tt : va_W) (hT : ∀ c ∈ tt, c ∈ tx) (hI : xI f a) (hG : gOK K g.2 tt) (x : Int32)  (s0 : Nat) (hp0 : (f 1637).toInt = (s0 : Int)) (hp1 : s0 ≤ 400) (hp2 : ldQ x (a 55) s0) : kVG l yX10_land (Cond.code yX10_land cX10_land 2 none :: kG) (rmD 1 0 0) D K [.ref (r 51), .int x] (xX K r f a g tx) (fun (u : xS) => xI u.1 u.2.1 ∧ gOK K u.2.2.2 tt ∧ xEk ([], [55], []) f a g u.1 u.2.1 u.2.2 ∧ ldP x (a 55) (u.2.1 55) s0) (fun u => xX K r u.1 u.2.1 u.2.2 tx) 0 0 := by
  refine kVG.of (cc := cX10_land) (maxL := 2) (ret := none) (by decide) rfl (Nat.le_of_ble_eq_true rfl) ?_
  intro p e s m below meth c A hx hb hr hml hown hts hlocks hnm hK hP hD hS hA hV ls hl
  have hE : xEk ([], [55], []) f a g f a g := xEk_rf
  have hg : ∀ w ∈ kG, w.before _ s = true := fun w h => hts w (List.mem_cons_of_mem _ h)
  have hown : s.vm.findClass RX10 = some m.cls := hown
  have hl : lv_has ls 2 [(0, .ref (r 51)), (1, .int x)] := hl
  obtain ⟨cs, ecs⟩ : ∃ z : Int32, z = f 1637 := ⟨_, rfl⟩
  have hcs : cs.toInt = (s0 : Int) := by rw [ecs]; exact hp0
  have b1 : kb 0 cs 400 := ⟨by omega, by have w1 := hp1; omega⟩
  rcases hp2 with hxq | hxq
  · have hx1 : x = -1 := hxq
    have b2 : kb (-1) x (-1) := (by rw [hx1]; exact ⟨by decide +kernel, by decide +kernel⟩)
    refine lv_iload_n hx hb dX10_land_0 rfl (lv_at hl 1 rfl) ?_
    refine lv_if_lt (tgt := 46) hx hb dX10_land_1 (by decide) (fun c3 => ?_) (fun c3 => ?_)
    · have h4 := (kc_lt c3)
      exact kV_ret hx hb hr hlocks hK hS dX10_land_46 (f, a, g) hP hD ⟨hI, hG, hE, (Or.inl ⟨hx1, rfl⟩)⟩
    · have h5 := (kc_nlt c3)
      exact kb_no (kr_le1 h5 kc_0 b2) (by decide)
  · obtain ⟨kk, bb, hk, hlt, hc, hbb⟩ := hxq
    have b6 : kb 0 x 399 := ⟨by omega, by have w1 := hp1; omega⟩
    have hcl : x.toNatClampNeg = kk := cl_nat hk
    refine lv_iload_n hx hb dX10_land_0 rfl (lv_at hl 1 rfl) ?_
    refine lv_if_lt (tgt := 46) hx hb dX10_land_1 (by decide) (fun c7 => ?_) (fun c7 => ?_)
    · have h8 := (kc_lt c7)
      exact kb_no (kr_lt1 h8 b6 kc_0 (H := (-1)) (by decide)) (by decide)
    · have h9 := (kc_nlt c7)
      refine lv_iload_n hx hb dX10_land_4 rfl (lv_at hl 1 rfl) ?_
      refine lv_aload_n hx hb dX10_land_5 rfl (lv_at hl 0 rfl) ?_
      refine va_get (D := D) (ci := 10) (v := .int (f 1637)) (C := RX10) (T := TX10) (N := 6) hx hb hg inC10 hown hK hP 51 rfl rfl 5 (by decide) (hg _ wt2_50) (fun _ h9 => h9) rfl dX10_land_6 ?_
      refine k_top (z := cs) ecs.symm ?_
      refine lv_icmp_ge (tgt := 46) hx hb dX10_land_9 (by decide) (fun c10 => ?_) (fun c10 => ?_)
      · exact (by have w1 := kc_le c10; omega : False).elim
      · have h11 := (kc_nle c10)
        have b12 : kb 1 cs 400 := kr_lt2 h11 b6 b1 (by decide)
        refine lv_iload_n hx hb dX10_land_12 rfl (lv_at hl 1 rfl) ?_
        refine lv_aload_n hx hb dX10_land_13 rfl (lv_at hl 0 rfl) ?_
        refine va_get (D := D) (ci := 10) (v := .ref (r 55)) (C := RX10) (T := TX10) (N := 6) hx hb hg inC10 hown hK hP 51 rfl rfl 4 (by decide) (hg _ wt2_49) (fun _ h9 => h9) rfl dX10_land_14 ?_
        refine va_alen (v := 400) hx hb hK hP 55 0 rfl rfl rfl dX10_land_17 ?_
        refine lv_icmp_ge (tgt := 46) hx hb dX10_land_18 (by decide) (fun c13 => ?_) (fun c13 => ?_)
        · have h14 := (kc_le c13)
          exact kb_no (kr_le1 h14 kc_400 b6) (by decide)
        · have h15 := (kc_nle c13)
          refine lv_aload_n hx hb dX10_land_21 rfl (lv_at hl 0 rfl) ?_
          refine va_get (D := D) (ci := 10) (v := .ref (r 55)) (C := RX10) (T := TX10) (N := 6) hx hb hg inC10 hown hK hP 51 rfl rfl 4 (by decide) (hg _ wt2_49) (fun _ h9 => h9) rfl dX10_land_22 ?_
          refine lv_iload_n hx hb dX10_land_25 rfl (lv_at hl 1 rfl) ?_
          refine lv_aload_n hx hb dX10_land_26 rfl (lv_at hl 0 rfl) ?_
          refine va_get (D := D) (ci := 10) (v := .ref (r 55)) (C := RX10) (T := TX10) (N := 6) hx hb hg inC10 hown hK hP 51 rfl rfl 4 (by decide) (hg _ wt2_49) (fun _ h9 => h9) rfl dX10_land_27 ?_
          refine lv_iload_n hx hb dX10_land_30 rfl (lv_at hl 1 rfl) ?_
          refine va_iald hx hb hK hP 55 0 rfl rfl (kb_in b6 (by decide) (by decide)) dX10_land_31 ?_
          refine lv_topi (fun t16 et16 => ?_)
          have b17 : kb 0 t16 65535 := kb_eq et16 (xI_c hI _)
          refine lv_sipush (v := (-4096)) hx hb dX10_land_32 (by decide) ?_
          refine lv_iand hx hb dX10_land_35 ?_
          refine lv_topi (fun t18 et18 => ?_)
          have b19 : kb 0 t18 65535 := kb_eq et18 (kb_andN b17 (by decide))
          refine lv_aload_n hx hb dX10_land_36 rfl (lv_at hl 0 rfl) ?_
          refine va_get (D := D) (ci := 10) (v := .int (f 1637)) (C := RX10) (T := TX10) (N := 6) hx hb hg inC10 hown hK hP 51 rfl rfl 5 (by decide) (hg _ wt2_50) (fun _ h9 => h9) rfl dX10_land_37 ?_
          refine k_top (z := cs) ecs.symm ?_
          refine lv_sipush (v := 4095) hx hb dX10_land_40 (by decide) ?_
          refine lv_iand hx hb dX10_land_43 ?_
          refine lv_topi (fun t20 et20 => ?_)
          have b21 : kb 0 t20 4095 := kb_eq et20 (kb_and 12 (by decide) (by decide))
          refine lv_ior hx hb dX10_land_44 ?_
          refine lv_topi (fun t22 et22 => ?_)
          have b23 : kb 0 t22 65535 := kb_eq et22 (kb_or 16 b19 b21 (by decide) (by decide) (by decide) (by decide) (by decide))
          refine va_iast hx hb hK hP hD hS 55 0 rfl rfl (kb_in b6 (by decide) (by decide)) dX10_land_45 (fun H locs hP hD hS => ?_)
          have hP : va_P D vwCl (xX K r f (va_up a 55 (upd (a 55) x.toNatClampNeg t22)) g tx) H := hP
          have hD : va_D A (xX K r f (va_up a 55 (upd (a 55) x.toNatClampNeg t22)) g tx) := hD
          refine k_gen (P := fun z => va_P D vwCl (xX K r f z g tx) H ∧ va_D A (xX K r f z g tx) ∧ (xI f z) ∧ (gOK K g.2 tt) ∧ (xEk ([], [55], []) f a g f z g)) (va_up a 55 (upd (a 55) x.toNatClampNeg t22)) ⟨hP, hD, (xI_55 hI b23), hG, (xEk_a hE rfl)⟩ (fun a_24 ea_24 hq => ?_)
          obtain ⟨hP, hD, hI, hG, hE⟩ := hq
          exact kV_ret hx hb hr hlocks hK hS dX10_land_46 (f, a_24, g) hP hD ⟨hI, hG, hE, (Or.inr ⟨(fun q => by have w1 := congrArg Int32.toInt q; have w2 : (-1 : Int32).toInt = -1 := (by decide +kernel); omega), fun k hk2 => by
    have ek : k = kk := by omega
    rw [ek]
    refine ⟨?_, fun p hp => by rw [← ea_24]; exact (pk_un (f := a 55) (by rw [hcl]; exact hp))⟩
    have ev : t16 = a 55 kk := et16.trans (congrArg (a 55) hcl)
    show (a_24 55 kk).toInt = _
    rw [← hcl, (show a_24 55 x.toNatClampNeg = t22 from by rw [← ea_24]; exact (pk_us (f := a 55) (k := x.toNatClampNeg) (x := t22))), et22, et18, et20]
    rw [ld_v (by rw [ev]; exact hc) hbb (kb_w b12 (by decide) (by decide)), ev, hcl, hcs]⟩)⟩
set_option maxHeartbeats 4000000 in
set_option maxRecDepth 100000 in
theorem y_repeat  (l : Launch) {D : va_G} {K : Nat → ClassId} (r : Nat → Nat) (f : Nat → Int32) (a : Nat → Nat → Int32) (g : xG) (tx tt : va_W) (hT : ∀ c ∈ tt, c ∈ tx) (hI : xI f a) (hG : gOK K g.2 tt) (x : Int32)  (cn : Nat) (hp0 : (f 1632).toInt = (cn : Int)) (hp1 : 1 ≤ cn ∧ cn ≤ 12) : kVG l yX10_repeat (Cond.code yX10_repeat cX10_repeat 2 none :: kG) (rmD 1 0 0) D K [.ref (r 51), .int x] (xX K r f a g tx) (fun (u : xS) => xI u.1 u.2.1 ∧ gOK K u.2.2.2 tt ∧ xEk ([], [53], []) f a g u.1 u.2.1 u.2.2 ∧ (u.2.1 53 (cn - 1) = x ∧ ∀ p, ¬ p = cn - 1 → u.2.1 53 p = a 53 p)) (fun u => xX K r u.1 u.2.1 u.2.2 tx) 0 0 := by
  refine kVG.of (cc := cX10_repeat) (maxL := 2) (ret := none) (by decide) rfl (Nat.le_of_ble_eq_true rfl) ?_
  intro p e s m below meth c A hx hb hr hml hown hts hlocks hnm hK hP hD hS hA hV ls hl
  have hE : xEk ([], [53], []) f a g f a g := xEk_rf
  have hg : ∀ w ∈ kG, w.before _ s = true := fun w h => hts w (List.mem_cons_of_mem _ h)
  have hown : s.vm.findClass RX10 = some m.cls := hown
  have hl : lv_has ls 2 [(0, .ref (r 51)), (1, .int x)] := hl
  obtain ⟨cC, ecC⟩ : ∃ z : Int32, z = f 1632 := ⟨_, rfl⟩
  have hcC : cC.toInt = (cn : Int) := by rw [ecC]; exact hp0
  have b1 : kb 1 cC 12 := ⟨by omega, by have w1 := hp1; omega⟩
  refine lv_aload_n hx hb dX10_repeat_0 rfl (lv_at hl 0 rfl) ?_
  refine va_get (D := D) (ci := 10) (v := .int (f 1632)) (C := RX10) (T := TX10) (N := 6) hx hb hg inC10 hown hK hP 51 rfl rfl 0 (by decide) (hg _ wt2_40) (fun _ h9 => h9) rfl dX10_repeat_1 ?_
  refine k_top (z := cC) ecC.symm ?_
  refine lv_if_le (tgt := 28) hx hb dX10_repeat_4 (by decide) (fun c2 => ?_) (fun c2 => ?_)
  · have h3 := (kc_le c2)
    exact kb_no (kr_le1 h3 b1 kc_0) (by decide)
  · have h4 := (kc_nle c2)
    refine lv_aload_n hx hb dX10_repeat_7 rfl (lv_at hl 0 rfl) ?_
    refine va_get (D := D) (ci := 10) (v := .int (f 1632)) (C := RX10) (T := TX10) (N := 6) hx hb hg inC10 hown hK hP 51 rfl rfl 0 (by decide) (hg _ wt2_40) (fun _ h9 => h9) rfl dX10_repeat_8 ?_
    refine k_top (z := cC) ecC.symm ?_
    refine lv_bipush (v := 12) hx hb dX10_repeat_11 (by decide) ?_
    refine lv_icmp_gt (tgt := 28) hx hb dX10_repeat_13 (by decide) (fun c5 => ?_) (fun c5 => ?_)
    · have h6 := (kc_lt c5)
      exact kb_no (kr_lt1 h6 kc_12 b1 (H := 11) (by decide)) (by decide)
    · have h7 := (kc_nlt c5)
      refine lv_aload_n hx hb dX10_repeat_16 rfl (lv_at hl 0 rfl) ?_
      refine va_get (D := D) (ci := 10) (v := .ref (r 53)) (C := RX10) (T := TX10) (N := 6) hx hb hg inC10 hown hK hP 51 rfl rfl 2 (by decide) (hg _ wt2_46) (fun _ h9 => h9) rfl dX10_repeat_17 ?_
      refine lv_aload_n hx hb dX10_repeat_20 rfl (lv_at hl 0 rfl) ?_
      refine va_get (D := D) (ci := 10) (v := .int (f 1632)) (C := RX10) (T := TX10) (N := 6) hx hb hg inC10 hown hK hP 51 rfl rfl 0 (by decide) (hg _ wt2_40) (fun _ h9 => h9) rfl dX10_repeat_21 ?_
      refine k_top (z := cC) ecC.symm ?_
      refine lv_iconst (v := 1) hx hb dX10_repeat_24 (by decide) ?_
      refine lv_isub hx hb dX10_repeat_25 ?_
      refine lv_topi (fun t8 et8 => ?_)
      have b9 : kb 0 t8 11 := kb_eq et8 (kb_sub b1 kc_1 (by decide) (by decide))
      have qt8 : t8.toInt = cC.toInt - 1 := by rw [et8]; exact kt_subc b1 kc_1 (by decide) (by decide)
      refine lv_iload_n hx hb dX10_repeat_26 rfl (lv_at hl 1 rfl) ?_
      refine va_iast hx hb hK hP hD hS 53 0 rfl rfl (kb_in b9 (by decide) (by decide)) dX10_repeat_27 (fun H locs hP hD hS => ?_)
      have hP : va_P D vwCl (xX K r f (va_up a 53 (upd (a 53) t8.toNatClampNeg x)) g tx) H := hP
      have hD : va_D A (xX K r f (va_up a 53 (upd (a 53) t8.toNatClampNeg x)) g tx) := hD
      refine k_gen (P := fun z => va_P D vwCl (xX K r f z g tx) H ∧ va_D A (xX K r f z g tx) ∧ (xI f z) ∧ (gOK K g.2 tt) ∧ (xEk ([], [53], []) f a g f z g)) (va_up a 53 (upd (a 53) t8.toNatClampNeg x)) ⟨hP, hD, (xI_a hI (by decide)), hG, (xEk_a hE rfl)⟩ (fun a_10 ea_10 hq => ?_)
      obtain ⟨hP, hD, hI, hG, hE⟩ := hq
      exact kV_ret hx hb hr hlocks hK hS dX10_repeat_28 (f, a_10, g) hP hD ⟨hI, hG, hE, ⟨by show a_10 53 (cn - 1) = x; rw [show cn - 1 = t8.toNatClampNeg from (by have w1 := qt8; have w2 := hp1; unfold Int32.toNatClampNeg; omega)]; exact (show a_10 53 t8.toNatClampNeg = x from by rw [← ea_10]; exact (pk_us (f := a 53) (k := t8.toNatClampNeg) (x := x))), fun p hp => by rw [← ea_10]; exact (pk_un (f := a 53) (by have w1 := qt8; have w2 := hp1; unfold Int32.toNatClampNeg; omega))⟩⟩
set_option maxHeartbeats 4000000 in
set_option maxRecDepth 100000 in
theorem y_close  (l : Launch) {D : va_G} {K : Nat → ClassId} (r : Nat → Nat) (f : Nat → Int32) (a : Nat → Nat → Int32) (g : xG) (tx tt : va_W) (hT : ∀ c ∈ tt, c ∈ tx) (hI : xI f a) (hG : gOK K g.2 tt) (pc_ : Int32) (bpc_ : kb 0 pc_ 2) (cn s0 : Nat) (hp0 : (f 1632).toInt = (cn : Int)) (hp1 : 1 ≤ cn ∧ cn ≤ 12) (hp2 : (f 1637).toInt = (s0 : Int)) : kVG l yX10_close (Cond.code yX10_close cX10_close 3 none :: kG) (rmD 1 0 0) D K [.ref (r 51), .int pc_] (xX K r f a g tx) (fun (u : xS) => xI u.1 u.2.1 ∧ gOK K u.2.2.2 tt ∧ xEk ([], [54], []) f a g u.1 u.2.1 u.2.2 ∧ ((u.2.1 54 (3 * (cn - 1) + pc_.toInt.toNat + 1)).toInt = (s0 : Int) ∧ ∀ p, ¬ p = 3 * (cn - 1) + pc_.toInt.toNat + 1 → u.2.1 54 p = a 54 p)) (fun u => xX K r u.1 u.2.1 u.2.2 tx) 0 0 := by
  refine kVG.of (cc := cX10_close) (maxL := 3) (ret := none) (by decide) rfl (Nat.le_of_ble_eq_true rfl) ?_
  intro p e s m below meth c A hx hb hr hml hown hts hlocks hnm hK hP hD hS hA hV ls hl
  have hE : xEk ([], [54], []) f a g f a g := xEk_rf
  have hg : ∀ w ∈ kG, w.before _ s = true := fun w h => hts w (List.mem_cons_of_mem _ h)
  have hown : s.vm.findClass RX10 = some m.cls := hown
  have hl : lv_has ls 3 [(0, .ref (r 51)), (1, .int pc_)] := hl
  obtain ⟨cC, ecC⟩ : ∃ z : Int32, z = f 1632 := ⟨_, rfl⟩
  have hcC : cC.toInt = (cn : Int) := by rw [ecC]; exact hp0
  have b1 : kb 1 cC 12 := ⟨by omega, by have w1 := hp1; omega⟩
  obtain ⟨cs, ecs⟩ : ∃ z : Int32, z = f 1637 := ⟨_, rfl⟩
  have hcs : cs.toInt = (s0 : Int) := by rw [ecs]; exact hp2
  refine lv_aload_n hx hb dX10_close_0 rfl (lv_at hl 0 rfl) ?_
  refine va_get (D := D) (ci := 10) (v := .int (f 1632)) (C := RX10) (T := TX10) (N := 6) hx hb hg inC10 hown hK hP 51 rfl rfl 0 (by decide) (hg _ wt2_40) (fun _ h9 => h9) rfl dX10_close_1 ?_
  refine k_top (z := cC) ecC.symm ?_
  refine lv_iconst (v := 1) hx hb dX10_close_4 (by decide) ?_
  refine lv_isub hx hb dX10_close_5 ?_
  refine lv_topi (fun t2 et2 => ?_)
  have b3 : kb 0 t2 11 := kb_eq et2 (kb_sub b1 kc_1 (by decide) (by decide))
  have qt2 : t2.toInt = cC.toInt - 1 := by rw [et2]; exact kt_subc b1 kc_1 (by decide) (by decide)
  refine lv_iconst (v := 3) hx hb dX10_close_6 (by decide) ?_
  refine lv_imul hx hb dX10_close_7 ?_
  refine lv_topi (fun t4 et4 => ?_)
  have b5 : kb 0 t4 33 := kb_eq et4 (kb_mul b3 kc_3 (by decide) (by decide) (by decide))
  have qt4 : t4.toInt = t2.toInt * 3 := by rw [et4]; exact kt_mulc b3 kc_3 (by decide) (by decide) (by decide)
  refine lv_iload_n hx hb dX10_close_8 rfl (lv_at hl 1 rfl) ?_
  refine lv_iadd hx hb dX10_close_9 ?_
  refine lv_topi (fun t6 et6 => ?_)
  have b7 : kb 0 t6 35 := kb_eq et6 (kb_add b5 bpc_ (by decide) (by decide))
  have qt6 : t6.toInt = t4.toInt + pc_.toInt := by rw [et6]; exact kt_add b5 bpc_ (by decide) (by decide)
  refine lv_iconst (v := 1) hx hb dX10_close_10 (by decide) ?_
  refine lv_iadd hx hb dX10_close_11 ?_
  refine lv_topi (fun t8 et8 => ?_)
  have b9 : kb 1 t8 36 := kb_eq et8 (kb_add b7 kc_1 (by decide) (by decide))
  have qt8 : t8.toInt = t6.toInt + 1 := by rw [et8]; exact kt_addc b7 kc_1 (by decide) (by decide)
  refine lv_istore_n (lv' := [(2, .int t8), (0, .ref (r 51)), (1, .int pc_)]) hx hb dX10_close_12 rfl hl (by decide) rfl (fun ls hl => ?_)
  refine lv_iload_n hx hb dX10_close_13 rfl (lv_at hl 0 rfl) ?_
  refine lv_if_le (tgt := 36) hx hb dX10_close_14 (by decide) (fun c10 => ?_) (fun c10 => ?_)
  · have h11 := (kc_le c10)
    exact kb_no (kr_le1 h11 b9 kc_0) (by decide)
  · have h12 := (kc_nle c10)
    refine lv_iload_n hx hb dX10_close_17 rfl (lv_at hl 0 rfl) ?_
    refine lv_aload_n hx hb dX10_close_18 rfl (lv_at hl 1 rfl) ?_
    refine va_get (D := D) (ci := 10) (v := .ref (r 54)) (C := RX10) (T := TX10) (N := 6) hx hb hg inC10 hown hK hP 51 rfl rfl 3 (by decide) (hg _ wt2_48) (fun _ h9 => h9) rfl dX10_close_19 ?_
    refine va_alen (v := 37) hx hb hK hP 54 0 rfl rfl rfl dX10_close_22 ?_
    refine lv_icmp_ge (tgt := 36) hx hb dX10_close_23 (by decide) (fun c13 => ?_) (fun c13 => ?_)
    · have h14 := (kc_le c13)
      exact kb_no (kr_le1 h14 kc_37 b9) (by decide)
    · have h15 := (kc_nle c13)
      refine lv_aload_n hx hb dX10_close_26 rfl (lv_at hl 1 rfl) ?_
      refine va_get (D := D) (ci := 10) (v := .ref (r 54)) (C := RX10) (T := TX10) (N := 6) hx hb hg inC10 hown hK hP 51 rfl rfl 3 (by decide) (hg _ wt2_48) (fun _ h9 => h9) rfl dX10_close_27 ?_
      refine lv_iload_n hx hb dX10_close_30 rfl (lv_at hl 0 rfl) ?_
      refine lv_aload_n hx hb dX10_close_31 rfl (lv_at hl 1 rfl) ?_
      refine va_get (D := D) (ci := 10) (v := .int (f 1637)) (C := RX10) (T := TX10) (N := 6) hx hb hg inC10 hown hK hP 51 rfl rfl 5 (by decide) (hg _ wt2_50) (fun _ h9 => h9) rfl dX10_close_32 ?_
      refine k_top (z := cs) ecs.symm ?_
      refine va_iast hx hb hK hP hD hS 54 0 rfl rfl (kb_in b9 (by decide) (by decide)) dX10_close_35 (fun H locs hP hD hS => ?_)
      have hP : va_P D vwCl (xX K r f (va_up a 54 (upd (a 54) t8.toNatClampNeg cs)) g tx) H := hP
      have hD : va_D A (xX K r f (va_up a 54 (upd (a 54) t8.toNatClampNeg cs)) g tx) := hD
      refine k_gen (P := fun z => va_P D vwCl (xX K r f z g tx) H ∧ va_D A (xX K r f z g tx) ∧ (xI f z) ∧ (gOK K g.2 tt) ∧ (xEk ([], [54], []) f a g f z g)) (va_up a 54 (upd (a 54) t8.toNatClampNeg cs)) ⟨hP, hD, (xI_a hI (by decide)), hG, (xEk_a hE rfl)⟩ (fun a_16 ea_16 hq => ?_)
      obtain ⟨hP, hD, hI, hG, hE⟩ := hq
      exact kV_ret hx hb hr hlocks hK hS dX10_close_36 (f, a_16, g) hP hD ⟨hI, hG, hE, ⟨by show (a_16 54 (3 * (cn - 1) + pc_.toInt.toNat + 1)).toInt = (s0 : Int); rw [← (by have w1 := qt8; have w2 := qt6; have w3 := qt4; have w4 := qt2; have w5 := hp1; have w6 := bpc_.1; unfold Int32.toNatClampNeg; omega : t8.toNatClampNeg = 3 * (cn - 1) + pc_.toInt.toNat + 1), (show a_16 54 t8.toNatClampNeg = cs from by rw [← ea_16]; exact (pk_us (f := a 54) (k := t8.toNatClampNeg) (x := cs)))]; exact hcs, fun p hp => by rw [← ea_16]; exact (pk_un (f := a 54) (by rw [(by have w1 := qt8; have w2 := qt6; have w3 := qt4; have w4 := qt2; have w5 := hp1; have w6 := bpc_.1; unfold Int32.toNatClampNeg; omega : t8.toNatClampNeg = 3 * (cn - 1) + pc_.toInt.toNat + 1)]; exact hp))⟩⟩
set_option maxHeartbeats 4000000 in
set_option maxRecDepth 100000 in
theorem y_open  (l : Launch) {D : va_G} {K : Nat → ClassId} (r : Nat → Nat) (f : Nat → Int32) (a : Nat → Nat → Int32) (g : xG) (tx tt : va_W) (hT : ∀ c ∈ tt, c ∈ tx) (hI : xI f a) (hG : gOK K g.2 tt) (x : Int32)  (cn : Nat) (hp0 : (f 1632).toInt = (cn : Int)) (hp1 : cn < 12) : kIG l yX10_open (Cond.code yX10_open cX10_open 2 (some .boolean) :: kG) (rmD 1 0 0) D K [.ref (r 51), .int x] (xX K r f a g tx) (fun v (u : xS) => kb 1 v 1 ∧ xI u.1 u.2.1 ∧ gOK K u.2.2.2 tt ∧ xEk ([1632], [52, 53], []) f a g u.1 u.2.1 u.2.2 ∧ (u.1 1632).toInt = ((cn + 1 : Nat) : Int) ∧ (u.2.1 52 cn = x ∧ u.2.1 53 cn = 1 ∧ ∀ p, ¬ p = cn → u.2.1 52 p = a 52 p ∧ u.2.1 53 p = a 53 p)) (fun u => xX K r u.1 u.2.1 u.2.2 tx) 0 0 := by
  refine kIE.of (cc := cX10_open) (maxL := 2) (ret := (some .boolean)) (by decide) rfl (Nat.le_of_ble_eq_true rfl) ?_
  intro p e s m below meth c A hx hb hr hml hown hts hlocks hnm hK hP hD hS hA hV ls hl
  have hE : xEk ([1632], [52, 53], []) f a g f a g := xEk_rf
  have hg : ∀ w ∈ kG, w.before _ s = true := fun w h => hts w (List.mem_cons_of_mem _ h)
  have hown : s.vm.findClass RX10 = some m.cls := hown
  have hl : lv_has ls 2 [(0, .ref (r 51)), (1, .int x)] := hl
  obtain ⟨cC, ecC⟩ : ∃ z : Int32, z = f 1632 := ⟨_, rfl⟩
  have hcC : cC.toInt = (cn : Int) := by rw [ecC]; exact hp0
  have b1 : kb 0 cC 11 := ⟨by omega, by have w1 := hp1; omega⟩
  have hcl : cC.toNatClampNeg = cn := cl_nat hcC
  refine lv_aload_n hx hb dX10_open_0 rfl (lv_at hl 0 rfl) ?_
  refine va_get (D := D) (ci := 10) (v := .int (f 1632)) (C := RX10) (T := TX10) (N := 6) hx hb hg inC10 hown hK hP 51 rfl rfl 0 (by decide) (hg _ wt2_40) (fun _ h9 => h9) rfl dX10_open_1 ?_
  refine k_top (z := cC) ecC.symm ?_
  refine lv_if_lt (tgt := 16) hx hb dX10_open_4 (by decide) (fun c2 => ?_) (fun c2 => ?_)
  · have h3 := (kc_lt c2)
    exact kb_no (kr_lt1 h3 b1 kc_0 (H := (-1)) (by decide)) (by decide)
  · have h4 := (kc_nlt c2)
    refine lv_aload_n hx hb dX10_open_7 rfl (lv_at hl 0 rfl) ?_
    refine va_get (D := D) (ci := 10) (v := .int (f 1632)) (C := RX10) (T := TX10) (N := 6) hx hb hg inC10 hown hK hP 51 rfl rfl 0 (by decide) (hg _ wt2_40) (fun _ h9 => h9) rfl dX10_open_8 ?_
    refine k_top (z := cC) ecC.symm ?_
    refine lv_bipush (v := 12) hx hb dX10_open_11 (by decide) ?_
    refine lv_icmp_lt (tgt := 18) hx hb dX10_open_13 (by decide) (fun c5 => ?_) (fun c5 => ?_)
    · have h6 := (kc_lt c5)
      refine lv_aload_n hx hb dX10_open_18 rfl (lv_at hl 0 rfl) ?_
      refine va_get (D := D) (ci := 10) (v := .ref (r 52)) (C := RX10) (T := TX10) (N := 6) hx hb hg inC10 hown hK hP 51 rfl rfl 1 (by decide) (hg _ wt2_43) (fun _ h9 => h9) rfl dX10_open_19 ?_
      refine lv_aload_n hx hb dX10_open_22 rfl (lv_at hl 0 rfl) ?_
      refine va_get (D := D) (ci := 10) (v := .int (f 1632)) (C := RX10) (T := TX10) (N := 6) hx hb hg inC10 hown hK hP 51 rfl rfl 0 (by decide) (hg _ wt2_40) (fun _ h9 => h9) rfl dX10_open_23 ?_
      refine k_top (z := cC) ecC.symm ?_
      refine lv_iload_n hx hb dX10_open_26 rfl (lv_at hl 1 rfl) ?_
      refine va_iast hx hb hK hP hD hS 52 0 rfl rfl (kb_in b1 (by decide) (by decide)) dX10_open_27 (fun H locs hP hD hS => ?_)
      have hP : va_P D vwCl (xX K r f (va_up a 52 (upd (a 52) cC.toNatClampNeg x)) g tx) H := hP
      have hD : va_D A (xX K r f (va_up a 52 (upd (a 52) cC.toNatClampNeg x)) g tx) := hD
      refine k_gen (P := fun z => va_P D vwCl (xX K r f z g tx) H ∧ va_D A (xX K r f z g tx) ∧ (xI f z) ∧ (gOK K g.2 tt) ∧ (xEk ([1632], [52, 53], []) f a g f z g)) (va_up a 52 (upd (a 52) cC.toNatClampNeg x)) ⟨hP, hD, (xI_a hI (by decide)), hG, (xEk_a hE rfl)⟩ (fun a_7 ea_7 hq => ?_)
      obtain ⟨hP, hD, hI, hG, hE⟩ := hq
      refine lv_aload_n hx hb dX10_open_28 rfl (lv_at hl 0 rfl) ?_
      refine va_get (D := D) (ci := 10) (v := .ref (r 53)) (C := RX10) (T := TX10) (N := 6) hx hb hg inC10 hown hK hP 51 rfl rfl 2 (by decide) (hg _ wt2_46) (fun _ h9 => h9) rfl dX10_open_29 ?_
      refine lv_aload_n hx hb dX10_open_32 rfl (lv_at hl 0 rfl) ?_
      refine va_get (D := D) (ci := 10) (v := .int (f 1632)) (C := RX10) (T := TX10) (N := 6) hx hb hg inC10 hown hK hP 51 rfl rfl 0 (by decide) (hg _ wt2_40) (fun _ h9 => h9) rfl dX10_open_33 ?_
      refine k_top (z := cC) ecC.symm ?_
      refine lv_iconst (v := 1) hx hb dX10_open_36 (by decide) ?_
      refine va_iast hx hb hK hP hD hS 53 0 rfl rfl (kb_in b1 (by decide) (by decide)) dX10_open_37 (fun H locs hP hD hS => ?_)
      have hP : va_P D vwCl (xX K r f (va_up a_7 53 (upd (a_7 53) cC.toNatClampNeg 1)) g tx) H := hP
      have hD : va_D A (xX K r f (va_up a_7 53 (upd (a_7 53) cC.toNatClampNeg 1)) g tx) := hD
      refine k_gen (P := fun z => va_P D vwCl (xX K r f z g tx) H ∧ va_D A (xX K r f z g tx) ∧ (xI f z) ∧ (gOK K g.2 tt) ∧ (xEk ([1632], [52, 53], []) f a g f z g)) (va_up a_7 53 (upd (a_7 53) cC.toNatClampNeg 1)) ⟨hP, hD, (xI_a hI (by decide)), hG, (xEk_a hE rfl)⟩ (fun a_8 ea_8 hq => ?_)
      obtain ⟨hP, hD, hI, hG, hE⟩ := hq
      refine lv_aload_n hx hb dX10_open_38 rfl (lv_at hl 0 rfl) ?_
      refine lv_dup hx hb dX10_open_39 rfl ?_
      refine va_get (D := D) (ci := 10) (v := .int (f 1632)) (C := RX10) (T := TX10) (N := 6) hx hb hg inC10 hown hK hP 51 rfl rfl 0 (by decide) (hg _ wt2_40) (fun _ h9 => h9) rfl dX10_open_40 ?_
      refine k_top (z := cC) ecC.symm ?_
      refine lv_iconst (v := 1) hx hb dX10_open_43 (by decide) ?_
      refine lv_iadd hx hb dX10_open_44 ?_
      refine lv_topi (fun t9 et9 => ?_)
      have b10 : kb 1 t9 12 := kb_eq et9 (kb_add b1 kc_1 (by decide) (by decide))
      have qt9 : t9.toInt = cC.toInt + 1 := by rw [et9]; exact kt_addc b1 kc_1 (by decide) (by decide)
      refine va_put (D := D) (ci := 10) (v := .int t9) (ty := .int) (C := RX10) (T := TX10) (N := 6) hx hb hg inC10 tyX10 tyX10_ok nmX10 hown hK hP hD hS 51 rfl rfl 0 (by decide) (hg _ wt2_40) (fun _ h9 => h9) rfl (by decide +kernel) rfl rfl (Nat.le_of_ble_eq_true rfl) dX10_open_45 (fun H locs hP hD hS => ?_)
      have hP : va_P D vwCl (xX K r (upd f 1632 t9) a_8 g tx) H := hP
      have hD : va_D A (xX K r (upd f 1632 t9) a_8 g tx) := hD
      refine k_gen (P := fun z => va_P D vwCl (xX K r z a_8 g tx) H ∧ va_D A (xX K r z a_8 g tx) ∧ (xI z a_8) ∧ (gOK K g.2 tt) ∧ (xEk ([1632], [52, 53], []) f a g z a_8 g)) (upd f 1632 t9) ⟨hP, hD, (xI_f hI (fI_st hI.1 1632 b10 (by decide) (by decide))), hG, (xEk_f hE rfl)⟩ (fun f_11 ef_11 hq => ?_)
      obtain ⟨hP, hD, hI, hG, hE⟩ := hq
      refine lv_iconst (v := 1) hx hb dX10_open_48 (by decide) ?_
      exact kI_ret (v := 1) hx hb hr hlocks (by decide +kernel) hK hS dX10_open_49 (f_11, a_8, g) hP hD ⟨kc_1, hI, hG, hE, (by show (f_11 1632).toInt = ((cn + 1 : Nat) : Int); rw [(show f_11 1632 = t9 from by rw [← ef_11]; rfl)]; have w1 := qt9; omega), ⟨by show a_8 52 cn = x; rw [← hcl]; exact ((show a_8 52 cC.toNatClampNeg = a_7 52 cC.toNatClampNeg from by rw [← ea_8]; rfl).trans (show a_7 52 cC.toNatClampNeg = x from by rw [← ea_7]; exact (pk_us (f := a 52) (k := cC.toNatClampNeg) (x := x)))), by show a_8 53 cn = 1; rw [← hcl]; exact (show a_8 53 cC.toNatClampNeg = 1 from by rw [← ea_8]; exact (pk_us (f := a_7 53) (k := cC.toNatClampNeg) (x := 1))), fun p hp => ⟨by show a_8 52 p = a 52 p; rw [← ea_8, ← ea_7]; exact (pk_un (f := a 52) (by rw [hcl]; exact hp)), by show a_8 53 p = a 53 p; rw [← ea_8, ← ea_7]; exact (pk_un (f := a 53) (by rw [hcl]; exact hp))⟩⟩⟩
    · have h12 := (kc_nlt c5)
      exact kb_no (kr_le1 h12 kc_12 b1) (by decide)
set_option maxHeartbeats 4000000 in
set_option maxRecDepth 100000 in
theorem y_inHand  (l : Launch) {D : va_G} {K : Nat → ClassId} (r : Nat → Nat) (f : Nat → Int32) (a : Nat → Nat → Int32) (g : xG) (tx tt : va_W) (hT : ∀ c ∈ tt, c ∈ tx) (hI : xI f a) (hG : gOK K g.2 tt)   (N i : Nat) (ob : Bool) (T pl : Nat → Int32) (hp0 : xQ f a N ob T pl) (hp1 : (f 1604).toInt = (i : Int)) (hp2 : i ≤ N) : kIG l yX4_inHand (Cond.code yX4_inHand cX4_inHand 1 (some .int) :: kG) (rmD 1 0 0) D K [.ref (r 50)] (xX K r f a g tx) (fun v (_ : Unit) => kb (-2147483648) v 2147483647 ∧ v = T i) (fun _ => xX K r f a g tx) 0 0 := by
  refine kIE.of (cc := cX4_inHand) (maxL := 1) (ret := (some .int)) (by decide) rfl (Nat.le_of_ble_eq_true rfl) ?_
  intro p e s m below meth c A hx hb hr hml hown hts hlocks hnm hK hP hD hS hA hV ls hl
  have hg : ∀ w ∈ kG, w.before _ s = true := fun w h => hts w (List.mem_cons_of_mem _ h)
  have hown : s.vm.findClass RX4 = some m.cls := hown
  have hl : lv_has ls 1 [(0, .ref (r 50))] := hl
  have hk0 := hp0
  have hN4 := hp0.2.1
  obtain ⟨cz4, ecz4⟩ : ∃ z : Int32, z = f 1604 := ⟨_, rfl⟩
  have hg0 : cz4.toInt = (i : Int) := by rw [ecz4]; exact hp1
  have b1 : kb 0 cz4 400 := kb_pos hp2 hN4 hg0
  obtain ⟨cz3, ecz3⟩ : ∃ z : Int32, z = f 1603 := ⟨_, rfl⟩
  have hs3 : cz3.toInt = (N : Int) + 1 := by rw [ecz3]; exact hp0.1
  have b2 : kb 1 cz3 401 := ⟨by omega, by omega⟩
  refine lv_aload_n hx hb dX4_inHand_0 rfl (lv_at hl 0 rfl) ?_
  refine va_get (D := D) (ci := 4) (v := .int (f 1604)) (C := RX4) (T := TX4) (N := 7) hx hb hg inC4 hown hK hP 50 rfl rfl 4 (by decide) (hg _ wt2_69) (fun _ h9 => h9) rfl dX4_inHand_1 ?_
  refine k_top (z := cz4) ecz4.symm ?_
  refine lv_if_lt (tgt := 42) hx hb dX4_inHand_4 (by decide) (fun c3 => ?_) (fun c3 => ?_)
  · have h4 := (kc_lt c3)
    exact kb_no (kr_lt1 h4 b1 kc_0 (H := (-1)) (by decide)) (by decide)
  · have h5 := (kc_nlt c3)
    refine lv_aload_n hx hb dX4_inHand_7 rfl (lv_at hl 0 rfl) ?_
    refine va_get (D := D) (ci := 4) (v := .int (f 1604)) (C := RX4) (T := TX4) (N := 7) hx hb hg inC4 hown hK hP 50 rfl rfl 4 (by decide) (hg _ wt2_69) (fun _ h9 => h9) rfl dX4_inHand_8 ?_
    refine k_top (z := cz4) ecz4.symm ?_
    refine lv_aload_n hx hb dX4_inHand_11 rfl (lv_at hl 0 rfl) ?_
    refine va_get (D := D) (ci := 4) (v := .int (f 1603)) (C := RX4) (T := TX4) (N := 7) hx hb hg inC4 hown hK hP 50 rfl rfl 3 (by decide) (hg _ wt2_68) (fun _ h9 => h9) rfl dX4_inHand_12 ?_
    refine k_top (z := cz3) ecz3.symm ?_
    refine lv_icmp_ge (tgt := 42) hx hb dX4_inHand_15 (by decide) (fun c6 => ?_) (fun c6 => ?_)
    · have h7 := (kc_le c6)
      have b8 : kb 1 cz3 400 := kr_le1 h7 b2 b1
      have b9 : kb 1 cz4 400 := kr_le2 h7 b2 b1
      refine lv_sipush (v := 4000) hx hb dX4_inHand_42 (by decide) ?_
      exact kI_ret (v := 4000) hx hb hr hlocks rfl hK hS dX4_inHand_45 () hP hD ⟨(kb_w kc_4000 (by decide) (by decide)), (by exfalso; have w1 := hs3; have w2 := hg0; have w3 := hp2; first | (have w9 := kc_nlt c6; omega) | (have w9 := kc_nle c6; omega) | (have w9 := kc_lt c6; omega) | (have w9 := kc_le c6; omega))⟩
    · have h10 := (kc_nle c6)
      refine lv_aload_n hx hb dX4_inHand_18 rfl (lv_at hl 0 rfl) ?_
      refine va_get (D := D) (ci := 4) (v := .int (f 1604)) (C := RX4) (T := TX4) (N := 7) hx hb hg inC4 hown hK hP 50 rfl rfl 4 (by decide) (hg _ wt2_69) (fun _ h9 => h9) rfl dX4_inHand_19 ?_
      refine k_top (z := cz4) ecz4.symm ?_
      refine lv_aload_n hx hb dX4_inHand_22 rfl (lv_at hl 0 rfl) ?_
      refine va_get (D := D) (ci := 4) (v := .ref (r 56)) (C := RX4) (T := TX4) (N := 7) hx hb hg inC4 hown hK hP 50 rfl rfl 1 (by decide) (hg _ wt2_66) (fun _ h9 => h9) rfl dX4_inHand_23 ?_
      refine va_alen (v := 401) hx hb hK hP 56 0 rfl rfl rfl dX4_inHand_26 ?_
      refine lv_icmp_ge (tgt := 42) hx hb dX4_inHand_27 (by decide) (fun c11 => ?_) (fun c11 => ?_)
      · have h12 := (kc_le c11)
        exact kb_no (kr_le1 h12 kc_401 b1) (by decide)
      · have h13 := (kc_nle c11)
        refine lv_aload_n hx hb dX4_inHand_30 rfl (lv_at hl 0 rfl) ?_
        refine va_get (D := D) (ci := 4) (v := .ref (r 56)) (C := RX4) (T := TX4) (N := 7) hx hb hg inC4 hown hK hP 50 rfl rfl 1 (by decide) (hg _ wt2_66) (fun _ h9 => h9) rfl dX4_inHand_31 ?_
        refine lv_aload_n hx hb dX4_inHand_34 rfl (lv_at hl 0 rfl) ?_
        refine va_get (D := D) (ci := 4) (v := .int (f 1604)) (C := RX4) (T := TX4) (N := 7) hx hb hg inC4 hown hK hP 50 rfl rfl 4 (by decide) (hg _ wt2_69) (fun _ h9 => h9) rfl dX4_inHand_35 ?_
        refine k_top (z := cz4) ecz4.symm ?_
        refine va_iald hx hb hK hP 56 0 rfl rfl (kb_in b1 (by decide) (by decide)) dX4_inHand_38 ?_
        refine lv_topi (fun t14 et14 => ?_)
        refine lv_goto (tgt := 45) hx hb dX4_inHand_39 (by decide) ?_
        exact kI_ret (v := t14) hx hb hr hlocks rfl hK hS dX4_inHand_45 () hP hD ⟨(kb_any t14), (et14.trans ((congrArg (a 56) (cl_nat hg0)).trans (hp0.2.2.2.1 i hp2)))⟩
set_option maxHeartbeats 4000000 in
set_option maxRecDepth 100000 in
theorem y_placeInHand  (l : Launch) {D : va_G} {K : Nat → ClassId} (r : Nat → Nat) (f : Nat → Int32) (a : Nat → Nat → Int32) (g : xG) (tx tt : va_W) (hT : ∀ c ∈ tt, c ∈ tx) (hI : xI f a) (hG : gOK K g.2 tt)   (N i : Nat) (ob : Bool) (T pl : Nat → Int32) (hp0 : xQ f a N ob T pl) (hp1 : (f 1604).toInt = (i : Int)) (hp2 : i ≤ N) : kIG l yX4_placeInHand (Cond.code yX4_placeInHand cX4_placeInHand 1 (some .int) :: kG) (rmD 1 0 0) D K [.ref (r 50)] (xX K r f a g tx) (fun v (_ : Unit) => kb (-2147483648) v 2147483647 ∧ v = pl i) (fun _ => xX K r f a g tx) 0 0 := by
  refine kIE.of (cc := cX4_placeInHand) (maxL := 1) (ret := (some .int)) (by decide) rfl (Nat.le_of_ble_eq_true rfl) ?_
  intro p e s m below meth c A hx hb hr hml hown hts hlocks hnm hK hP hD hS hA hV ls hl
  have hg : ∀ w ∈ kG, w.before _ s = true := fun w h => hts w (List.mem_cons_of_mem _ h)
  have hown : s.vm.findClass RX4 = some m.cls := hown
  have hl : lv_has ls 1 [(0, .ref (r 50))] := hl
  have hk0 := hp0
  have hN4 := hp0.2.1
  obtain ⟨cz4, ecz4⟩ : ∃ z : Int32, z = f 1604 := ⟨_, rfl⟩
  have hg0 : cz4.toInt = (i : Int) := by rw [ecz4]; exact hp1
  have b1 : kb 0 cz4 400 := kb_pos hp2 hN4 hg0
  obtain ⟨cz3, ecz3⟩ : ∃ z : Int32, z = f 1603 := ⟨_, rfl⟩
  have hs3 : cz3.toInt = (N : Int) + 1 := by rw [ecz3]; exact hp0.1
  have b2 : kb 1 cz3 401 := ⟨by omega, by omega⟩
  refine lv_aload_n hx hb dX4_placeInHand_0 rfl (lv_at hl 0 rfl) ?_
  refine va_get (D := D) (ci := 4) (v := .int (f 1604)) (C := RX4) (T := TX4) (N := 7) hx hb hg inC4 hown hK hP 50 rfl rfl 4 (by decide) (hg _ wt2_69) (fun _ h9 => h9) rfl dX4_placeInHand_1 ?_
  refine k_top (z := cz4) ecz4.symm ?_
  refine lv_if_lt (tgt := 42) hx hb dX4_placeInHand_4 (by decide) (fun c3 => ?_) (fun c3 => ?_)
  · have h4 := (kc_lt c3)
    exact kb_no (kr_lt1 h4 b1 kc_0 (H := (-1)) (by decide)) (by decide)
  · have h5 := (kc_nlt c3)
    refine lv_aload_n hx hb dX4_placeInHand_7 rfl (lv_at hl 0 rfl) ?_
    refine va_get (D := D) (ci := 4) (v := .int (f 1604)) (C := RX4) (T := TX4) (N := 7) hx hb hg inC4 hown hK hP 50 rfl rfl 4 (by decide) (hg _ wt2_69) (fun _ h9 => h9) rfl dX4_placeInHand_8 ?_
    refine k_top (z := cz4) ecz4.symm ?_
    refine lv_aload_n hx hb dX4_placeInHand_11 rfl (lv_at hl 0 rfl) ?_
    refine va_get (D := D) (ci := 4) (v := .int (f 1603)) (C := RX4) (T := TX4) (N := 7) hx hb hg inC4 hown hK hP 50 rfl rfl 3 (by decide) (hg _ wt2_68) (fun _ h9 => h9) rfl dX4_placeInHand_12 ?_
    refine k_top (z := cz3) ecz3.symm ?_
    refine lv_icmp_ge (tgt := 42) hx hb dX4_placeInHand_15 (by decide) (fun c6 => ?_) (fun c6 => ?_)
    · have h7 := (kc_le c6)
      have b8 : kb 1 cz3 400 := kr_le1 h7 b2 b1
      have b9 : kb 1 cz4 400 := kr_le2 h7 b2 b1
      refine lv_iconst (v := 0) hx hb dX4_placeInHand_42 (by decide) ?_
      exact kI_ret (v := 0) hx hb hr hlocks rfl hK hS dX4_placeInHand_43 () hP hD ⟨(kb_w kc_0 (by decide) (by decide)), (by exfalso; have w1 := hs3; have w2 := hg0; have w3 := hp2; first | (have w9 := kc_nlt c6; omega) | (have w9 := kc_nle c6; omega) | (have w9 := kc_lt c6; omega) | (have w9 := kc_le c6; omega))⟩
    · have h10 := (kc_nle c6)
      refine lv_aload_n hx hb dX4_placeInHand_18 rfl (lv_at hl 0 rfl) ?_
      refine va_get (D := D) (ci := 4) (v := .int (f 1604)) (C := RX4) (T := TX4) (N := 7) hx hb hg inC4 hown hK hP 50 rfl rfl 4 (by decide) (hg _ wt2_69) (fun _ h9 => h9) rfl dX4_placeInHand_19 ?_
      refine k_top (z := cz4) ecz4.symm ?_
      refine lv_aload_n hx hb dX4_placeInHand_22 rfl (lv_at hl 0 rfl) ?_
      refine va_get (D := D) (ci := 4) (v := .ref (r 57)) (C := RX4) (T := TX4) (N := 7) hx hb hg inC4 hown hK hP 50 rfl rfl 2 (by decide) (hg _ wt2_67) (fun _ h9 => h9) rfl dX4_placeInHand_23 ?_
      refine va_alen (v := 401) hx hb hK hP 57 0 rfl rfl rfl dX4_placeInHand_26 ?_
      refine lv_icmp_ge (tgt := 42) hx hb dX4_placeInHand_27 (by decide) (fun c11 => ?_) (fun c11 => ?_)
      · have h12 := (kc_le c11)
        exact kb_no (kr_le1 h12 kc_401 b1) (by decide)
      · have h13 := (kc_nle c11)
        refine lv_aload_n hx hb dX4_placeInHand_30 rfl (lv_at hl 0 rfl) ?_
        refine va_get (D := D) (ci := 4) (v := .ref (r 57)) (C := RX4) (T := TX4) (N := 7) hx hb hg inC4 hown hK hP 50 rfl rfl 2 (by decide) (hg _ wt2_67) (fun _ h9 => h9) rfl dX4_placeInHand_31 ?_
        refine lv_aload_n hx hb dX4_placeInHand_34 rfl (lv_at hl 0 rfl) ?_
        refine va_get (D := D) (ci := 4) (v := .int (f 1604)) (C := RX4) (T := TX4) (N := 7) hx hb hg inC4 hown hK hP 50 rfl rfl 4 (by decide) (hg _ wt2_69) (fun _ h9 => h9) rfl dX4_placeInHand_35 ?_
        refine k_top (z := cz4) ecz4.symm ?_
        refine va_iald hx hb hK hP 57 0 rfl rfl (kb_in b1 (by decide) (by decide)) dX4_placeInHand_38 ?_
        refine lv_topi (fun t14 et14 => ?_)
        refine lv_goto (tgt := 43) hx hb dX4_placeInHand_39 (by decide) ?_
        exact kI_ret (v := t14) hx hb hr hlocks rfl hK hS dX4_placeInHand_43 () hP hD ⟨(kb_any t14), (et14.trans ((congrArg (a 57) (cl_nat hg0)).trans (hp0.2.2.2.2.1 i hp2)))⟩
set_option maxHeartbeats 4000000 in
set_option maxRecDepth 100000 in
theorem y_emitIfAny  (l : Launch) {D : va_G} {K : Nat → ClassId} (r : Nat → Nat) (f : Nat → Int32) (a : Nat → Nat → Int32) (g : xG) (tx tt : va_W) (hT : ∀ c ∈ tt, c ∈ tx) (hI : xI f a) (hG : gOK K g.2 tt) (op : Int32) (bop : kb (-1) op 12) (s0 : Nat) (hp0 : (f 1637).toInt = (s0 : Int)) (hp1 : op = -1 ∨ s0 < 400) : kVG l yX4_emitIfAny (Cond.code yX4_emitIfAny cX4_emitIfAny 2 none :: kG) (rmD 2 0 0) D K [.ref (r 50), .int op] (xX K r f a g tx) (fun (u : xS) => xI u.1 u.2.1 ∧ gOK K u.2.2.2 tt ∧ xEk ([1637], [55], []) f a g u.1 u.2.1 u.2.2 ∧ (∃ s2 : Nat, (u.1 1637).toInt = (s2 : Int) ∧ emP op (a 55) (u.2.1 55) s0 s2)) (fun u => xX K r u.1 u.2.1 u.2.2 tx) 0 0 := by
  refine kVG.of (cc := cX4_emitIfAny) (maxL := 2) (ret := none) (by decide) rfl (Nat.le_of_ble_eq_true rfl) ?_
  intro p e s m below meth c A hx hb hr hml hown hts hlocks hnm hK hP hD hS hA hV ls hl
  have hE : xEk ([1637], [55], []) f a g f a g := xEk_rf
  have hg : ∀ w ∈ kG, w.before _ s = true := fun w h => hts w (List.mem_cons_of_mem _ h)
  have hown : s.vm.findClass RX4 = some m.cls := hown
  have hl : lv_has ls 2 [(0, .ref (r 50)), (1, .int op)] := hl
  obtain ⟨cs, ecs⟩ : ∃ z : Int32, z = f 1637 := ⟨_, rfl⟩
  have hcs : cs.toInt = (s0 : Int) := by rw [ecs]; exact hp0
  have hop1 := hp1
  refine lv_iload_n hx hb dX4_emitIfAny_0 rfl (lv_at hl 1 rfl) ?_
  refine lv_iconst (v := (-1)) hx hb dX4_emitIfAny_1 (by decide) ?_
  refine lv_icmp_eq (tgt := 15) hx hb dX4_emitIfAny_2 (by decide) (fun c1 => ?_) (fun c1 => ?_)
  · have b2 : kb (-1) op (-1) := kb_eq c1 kc_m1
    exact kV_ret hx hb hr hlocks hK hS dX4_emitIfAny_15 (f, a, g) hP hD ⟨hI, hG, hE, ⟨s0, (by show (f 1637).toInt = ((s0 : Nat) : Int); rw [ecs.symm]; exact hcs), Or.inl ⟨c1, rfl, rfl⟩⟩⟩
  · have b3 : kb 0 op 12 := kr_nel c1 bop kc_m1 (by decide)
    refine lv_aload_n hx hb dX4_emitIfAny_5 rfl (lv_at hl 0 rfl) ?_
    refine va_get (D := D) (ci := 4) (v := .ref (r 51)) (C := RX4) (T := TX4) (N := 7) hx hb hg inC4 hown hK hP 50 rfl rfl 0 (by decide) (hg _ wt2_64) (fun _ h9 => h9) rfl dX4_emitIfAny_6 ?_
    refine lv_iload_n hx hb dX4_emitIfAny_9 rfl (lv_at hl 1 rfl) ?_
    refine lv_iconst (v := 0) hx hb dX4_emitIfAny_10 (by decide) ?_
    refine kIG.callW (As := [.int op, .int 0]) (rest := []) ⟨hx, hb, hml, hown, hg⟩ (y_emit l r f a g tx tt hT hI hG op 0 b3 (kb_w kc_0 (by decide) (by decide)) (s0) (by show (f 1637).toInt = ((s0 : Nat) : Int); rw [ecs.symm]; exact hcs) (hop1.elim (fun q => absurd q c1) id)) (cwV 2 hg (kgV wt4_14 wt4_15 wt4_16 wt1_8 wt4_17) rfl rfl rfl (by decide +kernel) ⟨by decide, by decide⟩) hV hK hP hD hS hA (51) 10 rfl rfl rfl hl.1 rfl (Nat.le_of_ble_eq_true rfl) dX4_emitIfAny_11 ⟨Nat.le_refl _, Nat.le_refl _⟩ (fun v5 u6 H locs hw4 hP hD hS => ?_)
    obtain ⟨f7, a8, g9⟩ := u6
    have hP : va_P D vwCl (xX K r f7 a8 g9 tx) H := hP
    have hD : va_D A (xX K r f7 a8 g9 tx) := hD
    have hI : xI f7 a8 := hw4.2.1
    have hG : gOK K g9.2 tt := hw4.2.2.1
    have eE10 : xEk ([1637], [55], []) f a g f7 a8 g9 := hw4.2.2.2.1
    have hE : xEk ([1637], [55], []) f a g f7 a8 g9 := xEk_tr hE eE10
    obtain ⟨zs11, ezs11⟩ : ∃ z : Int32, z = f7 1637 := ⟨_, rfl⟩
    have hzzs11 : zs11.toInt = ((s0 + 1 : Nat) : Int) := by rw [ezs11]; exact hw4.2.2.2.2.2.1
    refine lv_pop hx hb dX4_emitIfAny_14 rfl ?_
    exact kV_ret hx hb hr hlocks hK hS dX4_emitIfAny_15 (f7, a8, g9) hP hD ⟨hI, hG, hE, ⟨s0 + 1, (by show (f7 1637).toInt = ((s0 + 1 : Nat) : Int); rw [ezs11.symm]; exact hzzs11), Or.inr ⟨c1, rfl, (by have w1 := hw4.2.2.2.2.2.2.1; have w2 : (0 : Int32).toInt = 0 := (by decide +kernel); rw [w2] at w1; omega), hw4.2.2.2.2.2.2.2⟩⟩⟩
set_option maxHeartbeats 4000000 in
set_option maxRecDepth 100000 in
theorem y_takeLawWord  (l : Launch) {D : va_G} {K : Nat → ClassId} (r : Nat → Nat) (f : Nat → Int32) (a : Nat → Nat → Int32) (g : xG) (tx tt : va_W) (hT : ∀ c ∈ tt, c ∈ tx) (hI : xI f a) (hG : gOK K g.2 tt) (x : Int32) (bx : kb 0 x 4000) (N i : Nat) (ob : Bool) (T pl : Nat → Int32) (hp0 : xQ f a N ob T pl) (hp1 : (f 1604).toInt = (i : Int)) (hp2 : i ≤ N) (hp3 : x = T i) : kIG l yX4_takeLawWord (Cond.code yX4_takeLawWord cX4_takeLawWord 3 (some .int) :: kG) (rmD 1 0 0) D K [.ref (r 50), .int x] (xX K r f a g tx) (fun v (u : xS) => kb (-2147483648) v 2147483647 ∧ xI u.1 u.2.1 ∧ gOK K u.2.2.2 tt ∧ xEk ([1604], [], []) f a g u.1 u.2.1 u.2.2 ∧ ((¬ v = -1 ∧ kb 2008 x 2017 ∧ (u.1 1604).toInt = ((i + 1 : Nat) : Int) ∧ i < N ∧ v.toInt = x.toInt - 2008) ∨ (v = -1 ∧ ¬ kb 2008 x 2017 ∧ (u.1 1604).toInt = (i : Int)))) (fun u => xX K r u.1 u.2.1 u.2.2 tx) 0 0 := by
  refine kIE.of (cc := cX4_takeLawWord) (maxL := 3) (ret := (some .int)) (by decide) rfl (Nat.le_of_ble_eq_true rfl) ?_
  intro p e s m below meth c A hx hb hr hml hown hts hlocks hnm hK hP hD hS hA hV ls hl
  have hE : xEk ([1604], [], []) f a g f a g := xEk_rf
  have hg : ∀ w ∈ kG, w.before _ s = true := fun w h => hts w (List.mem_cons_of_mem _ h)
  have hown : s.vm.findClass RX4 = some m.cls := hown
  have hl : lv_has ls 3 [(0, .ref (r 50)), (1, .int x)] := hl
  have hk0 := hp0
  have hN4 := hp0.2.1
  obtain ⟨cz4, ecz4⟩ : ∃ z : Int32, z = f 1604 := ⟨_, rfl⟩
  have hg0 : cz4.toInt = (i : Int) := by rw [ecz4]; exact hp1
  have b1 : kb 0 cz4 400 := kb_pos hp2 hN4 hg0
  refine lv_iload_n hx hb dX4_takeLawWord_0 rfl (lv_at hl 1 rfl) ?_
  refine lv_sipush (v := 2008) hx hb dX4_takeLawWord_1 (by decide) ?_
  refine lv_isub hx hb dX4_takeLawWord_4 ?_
  refine lv_topi (fun t2 et2 => ?_)
  have b3 : kb (-2008) t2 1992 := kb_eq et2 (kb_sub bx kc_2008 (by decide) (by decide))
  have qt2 : t2.toInt = x.toInt - 2008 := by rw [et2]; exact kt_subc bx kc_2008 (by decide) (by decide)
  refine lv_istore_n (lv' := [(2, .int t2), (0, .ref (r 50)), (1, .int x)]) hx hb dX4_takeLawWord_5 rfl hl (by decide) rfl (fun ls hl => ?_)
  refine lv_iload_n hx hb dX4_takeLawWord_6 rfl (lv_at hl 0 rfl) ?_
  refine lv_if_lt (tgt := 16) hx hb dX4_takeLawWord_7 (by decide) (fun c4 => ?_) (fun c4 => ?_)
  · have h5 := (kc_lt c4)
    have b6 : kb (-2008) t2 (-1) := kr_lt1 h5 b3 kc_0 (by decide)
    refine lv_iconst (v := (-1)) hx hb dX4_takeLawWord_16 (by decide) ?_
    exact kI_ret (v := (-1)) hx hb hr hlocks rfl hK hS dX4_takeLawWord_17 (f, a, g) hP hD ⟨(kb_w kc_m1 (by decide) (by decide)), hI, hG, hE, (Or.inr ⟨rfl, (fun q => by have w1 := qt2; have w2 := q.1; have w3 := q.2; have w4 := (b6).1; have w5 := (b6).2; omega), (by show (f 1604).toInt = ((i : Nat) : Int); rw [ecz4.symm]; exact hg0)⟩)⟩
  · have h7 := (kc_nlt c4)
    have b8 : kb 0 t2 1992 := kr_le2 h7 kc_0 b3
    refine lv_iload_n hx hb dX4_takeLawWord_10 rfl (lv_at hl 0 rfl) ?_
    refine lv_bipush (v := 10) hx hb dX4_takeLawWord_11 (by decide) ?_
    refine lv_icmp_lt (tgt := 18) hx hb dX4_takeLawWord_13 (by decide) (fun c9 => ?_) (fun c9 => ?_)
    · have h10 := (kc_lt c9)
      have b11 : kb 0 t2 9 := kr_lt1 h10 b8 kc_10 (by decide)
      refine lv_aload_n hx hb dX4_takeLawWord_18 rfl (lv_at hl 1 rfl) ?_
      refine lv_dup hx hb dX4_takeLawWord_19 rfl ?_
      have b12 : kb 2008 x 2017 := ⟨by have w1 := qt2; have w2 := (b11).1; omega, by have w1 := qt2; have w2 := (b11).2; omega⟩
      have hlt13 : i < N := xQ_lt hk0 (fun q => by have w1 := (b12).2; have w2 := congrArg Int32.toInt ((hp3).trans q); have w3 := i4000; omega)
      have b14 : kb 0 cz4 399 := kb_pos1 hlt13 hN4 hg0
      refine va_get (D := D) (ci := 4) (v := .int (f 1604)) (C := RX4) (T := TX4) (N := 7) hx hb hg inC4 hown hK hP 50 rfl rfl 4 (by decide) (hg _ wt2_69) (fun _ h9 => h9) rfl dX4_takeLawWord_20 ?_
      refine k_top (z := cz4) ecz4.symm ?_
      refine lv_iconst (v := 1) hx hb dX4_takeLawWord_23 (by decide) ?_
      refine lv_iadd hx hb dX4_takeLawWord_24 ?_
      refine lv_topi (fun t15 et15 => ?_)
      have b16 : kb 1 t15 400 := kb_eq et15 (kb_add b14 kc_1 (by decide) (by decide))
      have qt15 : t15.toInt = cz4.toInt + 1 := by rw [et15]; exact kt_addc b14 kc_1 (by decide) (by decide)
      have hg17 : t15.toInt = ((i + 1 : Nat) : Int) := by rw [qt15, hg0]; omega
      refine va_put (D := D) (ci := 4) (v := .int t15) (ty := .int) (C := RX4) (T := TX4) (N := 7) hx hb hg inC4 tyX4 tyX4_ok nmX4 hown hK hP hD hS 50 rfl rfl 4 (by decide) (hg _ wt2_69) (fun _ h9 => h9) rfl (by decide +kernel) rfl rfl (Nat.le_of_ble_eq_true rfl) dX4_takeLawWord_25 (fun H locs hP hD hS => ?_)
      have hP : va_P D vwCl (xX K r (upd f 1604 t15) a g tx) H := hP
      have hD : va_D A (xX K r (upd f 1604 t15) a g tx) := hD
      refine k_gen (P := fun z => va_P D vwCl (xX K r z a g tx) H ∧ va_D A (xX K r z a g tx) ∧ (xI z a) ∧ (gOK K g.2 tt) ∧ (xEk ([1604], [], []) f a g z a g) ∧ (xQ z a N ob T pl)) (upd f 1604 t15) ⟨hP, hD, (xI_f hI (fI_st hI.1 1604 (kb_any _) (by decide) (by decide))), hG, (xEk_f hE rfl), (xQ_f hk0 (by decide) (by decide))⟩ (fun f_18 ef_18 hq => ?_)
      obtain ⟨hP, hD, hI, hG, hE, hk0⟩ := hq
      refine lv_iload_n hx hb dX4_takeLawWord_28 rfl (lv_at hl 0 rfl) ?_
      exact kI_ret (v := t2) hx hb hr hlocks rfl hK hS dX4_takeLawWord_29 (f_18, a, g) hP hD ⟨(kb_w b11 (by decide) (by decide)), hI, hG, hE, (Or.inl ⟨i_ne2 b11 (by decide +kernel), b12, (by show (f_18 1604).toInt = ((i + 1 : Nat) : Int); rw [(show f_18 1604 = t15 from by rw [← ef_18]; rfl)]; exact hg17), hlt13, (by have w1 := qt2; omega)⟩)⟩
    · have h19 := (kc_nlt c9)
      have b20 : kb 10 t2 1992 := kr_le2 h19 kc_10 b8
      refine lv_iconst (v := (-1)) hx hb dX4_takeLawWord_16 (by decide) ?_
      exact kI_ret (v := (-1)) hx hb hr hlocks rfl hK hS dX4_takeLawWord_17 (f, a, g) hP hD ⟨(kb_w kc_m1 (by decide) (by decide)), hI, hG, hE, (Or.inr ⟨rfl, (fun q => by have w1 := qt2; have w2 := q.1; have w3 := q.2; have w4 := (b20).1; have w5 := (b20).2; omega), (by show (f 1604).toInt = ((i : Nat) : Int); rw [ecz4.symm]; exact hg0)⟩)⟩
set_option maxHeartbeats 4000000 in
set_option maxRecDepth 100000 in
theorem y_takeOrderWord  (l : Launch) {D : va_G} {K : Nat → ClassId} (r : Nat → Nat) (f : Nat → Int32) (a : Nat → Nat → Int32) (g : xG) (tx tt : va_W) (hT : ∀ c ∈ tt, c ∈ tx) (hI : xI f a) (hG : gOK K g.2 tt) (x : Int32) (bx : kb 0 x 4000) (N i : Nat) (ob : Bool) (T pl : Nat → Int32) (hp0 : xQ f a N ob T pl) (hp1 : (f 1604).toInt = (i : Int)) (hp2 : i ≤ N) (hp3 : x = T i) (hp4 : ¬ kb 0 x 1000) : kIG l yX4_takeOrderWord (Cond.code yX4_takeOrderWord cX4_takeOrderWord 5 (some .int) :: kG) (rmD 2 0 0) D K [.ref (r 50), .int x] (xX K r f a g tx) (fun v (u : xS) => kb (-2147483648) v 2147483647 ∧ xI u.1 u.2.1 ∧ gOK K u.2.2.2 tt ∧ xEk ([1604], [], []) f a g u.1 u.2.1 u.2.2 ∧ ((¬ v = -1 ∧ pLf true (T i) = true ∧ pNm true (T i) = false ∧ (u.1 1604).toInt = ((i + 1 : Nat) : Int) ∧ i < N ∧ v.toInt = (wIx true (T i) (T (i + 1)) : Int) ∧ kb 0 v 25) ∨ (¬ v = -1 ∧ pLf true (T i) = true ∧ pNm true (T i) = true ∧ pInr (T (i + 1)) 0 (if T i = 2014 then 9 else 5) = true ∧ (u.1 1604).toInt = ((i + 1 + 1 : Nat) : Int) ∧ i + 1 < N ∧ v.toInt = (wIx true (T i) (T (i + 1)) : Int) ∧ kb 0 v 25) ∨ (v = -1 ∧ pLf true (T i) = true ∧ pNm true (T i) = true ∧ pInr (T (i + 1)) 0 (if T i = 2014 then 9 else 5) = false ∧ (u.1 1604).toInt = ((i + 1 : Nat) : Int) ∧ i < N) ∨ (v = -1 ∧ pLf true (T i) = false ∧ (u.1 1604).toInt = (i : Int)))) (fun u => xX K r u.1 u.2.1 u.2.2 tx) 0 0 := by
  refine kIE.of (cc := cX4_takeOrderWord) (maxL := 5) (ret := (some .int)) (by decide) rfl (Nat.le_of_ble_eq_true rfl) ?_
  intro p e s m below meth c A hx hb hr hml hown hts hlocks hnm hK hP hD hS hA hV ls hl
  have hE : xEk ([1604], [], []) f a g f a g := xEk_rf
  have hg : ∀ w ∈ kG, w.before _ s = true := fun w h => hts w (List.mem_cons_of_mem _ h)
  have hown : s.vm.findClass RX4 = some m.cls := hown
  have hl : lv_has ls 5 [(0, .ref (r 50)), (1, .int x)] := hl
  have hk0 := hp0
  have hN4 := hp0.2.1
  obtain ⟨cz4, ecz4⟩ : ∃ z : Int32, z = f 1604 := ⟨_, rfl⟩
  have hg0 : cz4.toInt = (i : Int) := by rw [ecz4]; exact hp1
  have b1 : kb 0 cz4 400 := kb_pos hp2 hN4 hg0
  refine lv_iload_n hx hb dX4_takeOrderWord_0 rfl (lv_at hl 1 rfl) ?_
  refine lv_sipush (v := 2016) hx hb dX4_takeOrderWord_1 (by decide) ?_
  refine lv_icmp_ne (tgt := 11) hx hb dX4_takeOrderWord_4 (by decide) (fun c2 => ?_) (fun c2 => ?_)
  · refine lv_iload_n hx hb dX4_takeOrderWord_11 rfl (lv_at hl 1 rfl) ?_
    refine lv_sipush (v := 2024) hx hb dX4_takeOrderWord_12 (by decide) ?_
    refine lv_icmp_ne (tgt := 22) hx hb dX4_takeOrderWord_15 (by decide) (fun c3 => ?_) (fun c3 => ?_)
    · refine lv_iload_n hx hb dX4_takeOrderWord_22 rfl (lv_at hl 1 rfl) ?_
      refine lv_sipush (v := 2025) hx hb dX4_takeOrderWord_23 (by decide) ?_
      refine lv_icmp_ne (tgt := 33) hx hb dX4_takeOrderWord_26 (by decide) (fun c4 => ?_) (fun c4 => ?_)
      · refine lv_iload_n hx hb dX4_takeOrderWord_33 rfl (lv_at hl 1 rfl) ?_
        refine lv_sipush (v := 2026) hx hb dX4_takeOrderWord_34 (by decide) ?_
        refine lv_icmp_ne (tgt := 44) hx hb dX4_takeOrderWord_37 (by decide) (fun c5 => ?_) (fun c5 => ?_)
        · refine lv_iconst (v := (-1)) hx hb dX4_takeOrderWord_44 (by decide) ?_
          refine lv_istore_n (lv' := [(2, .int (-1)), (0, .ref (r 50)), (1, .int x)]) hx hb dX4_takeOrderWord_45 rfl hl (by decide) rfl (fun ls hl => ?_)
          refine lv_iload_n hx hb dX4_takeOrderWord_46 rfl (lv_at hl 0 rfl) ?_
          refine lv_iconst (v := (-1)) hx hb dX4_takeOrderWord_47 (by decide) ?_
          refine lv_icmp_eq (tgt := 63) hx hb dX4_takeOrderWord_48 (by decide) (fun c6 => ?_) (fun c6 => ?_)
          · refine lv_iload_n hx hb dX4_takeOrderWord_63 rfl (lv_at hl 2 rfl) ?_
            refine lv_sipush (v := 2014) hx hb dX4_takeOrderWord_64 (by decide) ?_
            refine lv_icmp_ne (tgt := 74) hx hb dX4_takeOrderWord_67 (by decide) (fun c7 => ?_) (fun c7 => ?_)
            · refine lv_iload_n hx hb dX4_takeOrderWord_74 rfl (lv_at hl 2 rfl) ?_
              refine lv_sipush (v := 2010) hx hb dX4_takeOrderWord_75 (by decide) ?_
              refine lv_icmp_ne (tgt := 86) hx hb dX4_takeOrderWord_78 (by decide) (fun c8 => ?_) (fun c8 => ?_)
              · refine lv_iload_n hx hb dX4_takeOrderWord_86 rfl (lv_at hl 2 rfl) ?_
                refine lv_sipush (v := 2027) hx hb dX4_takeOrderWord_87 (by decide) ?_
                refine lv_icmp_ne (tgt := 98) hx hb dX4_takeOrderWord_90 (by decide) (fun c9 => ?_) (fun c9 => ?_)
                · refine lv_iconst (v := (-1)) hx hb dX4_takeOrderWord_98 (by decide) ?_
                  refine lv_istore_n (lv' := [(3, .int (-1)), (2, .int (-1)), (0, .ref (r 50)), (1, .int x)]) hx hb dX4_takeOrderWord_99 rfl hl (by decide) rfl (fun ls hl => ?_)
                  refine lv_iload_n hx hb dX4_takeOrderWord_100 rfl (lv_at hl 0 rfl) ?_
                  refine lv_iconst (v := (-1)) hx hb dX4_takeOrderWord_101 (by decide) ?_
                  refine lv_icmp_ne (tgt := 107) hx hb dX4_takeOrderWord_102 (by decide) (fun c10 => ?_) (fun c10 => ?_)
                  · exact kb_nsame c10 kc_m1 kc_m1
                  · refine lv_iconst (v := (-1)) hx hb dX4_takeOrderWord_105 (by decide) ?_
                    exact kI_ret (v := (-1)) hx hb hr hlocks rfl hK hS dX4_takeOrderWord_106 (f, a, g) hP hD ⟨(kb_w kc_m1 (by decide) (by decide)), hI, hG, hE, (Or.inr (Or.inr (Or.inr ⟨rfl, (lfx_fo (fun q => hp4 (by rw [hp3]; exact q)) (fun q => c7 (hp3.trans q)) (fun q => c8 (hp3.trans q)) (fun q => c9 (hp3.trans q)) (fun q => c2 (hp3.trans q)) (fun q => c3 (hp3.trans q)) (fun q => c4 (hp3.trans q)) (fun q => c5 (hp3.trans q))), (by show (f 1604).toInt = ((i : Nat) : Int); rw [ecz4.symm]; exact hg0)⟩)))⟩
                · have b11 : kb 2027 x 2027 := kb_eq c9 kc_2027
                  refine lv_bipush (v := 20) hx hb dX4_takeOrderWord_93 (by decide) ?_
                  refine lv_goto (tgt := 99) hx hb dX4_takeOrderWord_95 (by decide) ?_
                  refine lv_istore_n (lv' := [(3, .int 20), (2, .int (-1)), (0, .ref (r 50)), (1, .int x)]) hx hb dX4_takeOrderWord_99 rfl hl (by decide) rfl (fun ls hl => ?_)
                  refine lv_iload_n hx hb dX4_takeOrderWord_100 rfl (lv_at hl 0 rfl) ?_
                  refine lv_iconst (v := (-1)) hx hb dX4_takeOrderWord_101 (by decide) ?_
                  refine lv_icmp_ne (tgt := 107) hx hb dX4_takeOrderWord_102 (by decide) (fun c12 => ?_) (fun c12 => ?_)
                  · refine lv_aload_n hx hb dX4_takeOrderWord_107 rfl (lv_at hl 2 rfl) ?_
                    refine lv_dup hx hb dX4_takeOrderWord_108 rfl ?_
                    have hlt13 : i < N := xQ_lt hk0 (ne_4000 (hp3.symm.trans c9) (by decide +kernel))
                    have b14 : kb 0 cz4 399 := kb_pos1 hlt13 hN4 hg0
                    refine va_get (D := D) (ci := 4) (v := .int (f 1604)) (C := RX4) (T := TX4) (N := 7) hx hb hg inC4 hown hK hP 50 rfl rfl 4 (by decide) (hg _ wt2_69) (fun _ h9 => h9) rfl dX4_takeOrderWord_109 ?_
                    refine k_top (z := cz4) ecz4.symm ?_
                    refine lv_iconst (v := 1) hx hb dX4_takeOrderWord_112 (by decide) ?_
                    refine lv_iadd hx hb dX4_takeOrderWord_113 ?_
                    refine lv_topi (fun t15 et15 => ?_)
                    have b16 : kb 1 t15 400 := kb_eq et15 (kb_add b14 kc_1 (by decide) (by decide))
                    have qt15 : t15.toInt = cz4.toInt + 1 := by rw [et15]; exact kt_addc b14 kc_1 (by decide) (by decide)
                    have hg17 : t15.toInt = ((i + 1 : Nat) : Int) := by rw [qt15, hg0]; omega
                    refine va_put (D := D) (ci := 4) (v := .int t15) (ty := .int) (C := RX4) (T := TX4) (N := 7) hx hb hg inC4 tyX4 tyX4_ok nmX4 hown hK hP hD hS 50 rfl rfl 4 (by decide) (hg _ wt2_69) (fun _ h9 => h9) rfl (by decide +kernel) rfl rfl (Nat.le_of_ble_eq_true rfl) dX4_takeOrderWord_114 (fun H locs hP hD hS => ?_)
                    have hP : va_P D vwCl (xX K r (upd f 1604 t15) a g tx) H := hP
                    have hD : va_D A (xX K r (upd f 1604 t15) a g tx) := hD
                    refine k_gen (P := fun z => va_P D vwCl (xX K r z a g tx) H ∧ va_D A (xX K r z a g tx) ∧ (xI z a) ∧ (gOK K g.2 tt) ∧ (xEk ([1604], [], []) f a g z a g) ∧ (xQ z a N ob T pl)) (upd f 1604 t15) ⟨hP, hD, (xI_f hI (fI_st hI.1 1604 (kb_any _) (by decide) (by decide))), hG, (xEk_f hE rfl), (xQ_f hk0 (by decide) (by decide))⟩ (fun f_18 ef_18 hq => ?_)
                    obtain ⟨hP, hD, hI, hG, hE, hk0⟩ := hq
                    refine lv_aload_n hx hb dX4_takeOrderWord_117 rfl (lv_at hl 2 rfl) ?_
                    refine kIG.callW (As := []) (rest := []) ⟨hx, hb, hml, hown, hg⟩ (y_inHand l r f_18 a g tx tt hT hI hG   N (i + 1) ob T pl hk0 (by rw [(show f_18 1604 = t15 from by rw [← ef_18]; rfl)]; exact hg17) hlt13) (cwV 0 hg (kgV wt3_238 wt4_0 wp1_12 wt1_7 wt4_1) rfl rfl rfl (by decide +kernel) ⟨by decide, by decide⟩) hV hK hP hD hS hA (50) 4 rfl rfl rfl hl.1 rfl (Nat.le_of_ble_eq_true rfl) dX4_takeOrderWord_118 ⟨Nat.le_refl _, Nat.le_refl _⟩ (fun v20 u21 H locs hw19 hP hD hS => ?_)
                    have hP : va_P D vwCl (xX K r f_18 a g tx) H := hP
                    have hD : va_D A (xX K r f_18 a g tx) := hD
                    have b22 : kb 0 v20 4000 := kb_eq hw19.2 (hk0.2.2.2.2.2.2 (i + 1))
                    refine lv_istore (lv' := [(4, .int v20), (3, .int 20), (2, .int (-1)), (0, .ref (r 50)), (1, .int x)]) hx hb dX4_takeOrderWord_121 hl (by decide) rfl (fun ls hl => ?_)
                    refine lv_iload hx hb dX4_takeOrderWord_123 (lv_at hl 0 rfl) ?_
                    refine lv_if_lt (tgt := 145) hx hb dX4_takeOrderWord_125 (by decide) (fun c23 => ?_) (fun c23 => ?_)
                    · have h24 := (kc_lt c23)
                      exact kb_no (kr_lt1 h24 b22 kc_0 (H := (-1)) (by decide)) (by decide)
                    · have h25 := (kc_nlt c23)
                      refine lv_iload hx hb dX4_takeOrderWord_128 (lv_at hl 0 rfl) ?_
                      refine lv_iload_n hx hb dX4_takeOrderWord_130 rfl (lv_at hl 1 rfl) ?_
                      refine lv_iconst (v := 4) hx hb dX4_takeOrderWord_131 (by decide) ?_
                      refine lv_icmp_ne (tgt := 140) hx hb dX4_takeOrderWord_132 (by decide) (fun c26 => ?_) (fun c26 => ?_)
                      · refine lv_bipush (v := 6) hx hb dX4_takeOrderWord_140 (by decide) ?_
                        refine lv_icmp_lt (tgt := 147) hx hb dX4_takeOrderWord_142 (by decide) (fun c27 => ?_) (fun c27 => ?_)
                        · have h28 := (kc_lt c27)
                          have b29 : kb 0 v20 5 := kr_lt1 h28 b22 kc_6 (by decide)
                          refine lv_aload_n hx hb dX4_takeOrderWord_147 rfl (lv_at hl 3 rfl) ?_
                          refine lv_dup hx hb dX4_takeOrderWord_148 rfl ?_
                          have hlt30 : i + 1 < N := xQ_lt hk0 (fun q => by have w1 := (b29).2; have w2 := congrArg Int32.toInt ((hw19.2).trans q); have w3 := i4000; omega)
                          have b31 : kb 0 t15 399 := kb_pos1 hlt30 hN4 hg17
                          refine va_get (D := D) (ci := 4) (v := .int (f_18 1604)) (C := RX4) (T := TX4) (N := 7) hx hb hg inC4 hown hK hP 50 rfl rfl 4 (by decide) (hg _ wt2_69) (fun _ h9 => h9) rfl dX4_takeOrderWord_149 ?_
                          refine k_top (z := t15) (show f_18 1604 = t15 from by rw [← ef_18]; rfl) ?_
                          refine lv_iconst (v := 1) hx hb dX4_takeOrderWord_152 (by decide) ?_
                          refine lv_iadd hx hb dX4_takeOrderWord_153 ?_
                          refine lv_topi (fun t32 et32 => ?_)
                          have b33 : kb 1 t32 400 := kb_eq et32 (kb_add b31 kc_1 (by decide) (by decide))
                          have qt32 : t32.toInt = t15.toInt + 1 := by rw [et32]; exact kt_addc b31 kc_1 (by decide) (by decide)
                          have hg34 : t32.toInt = ((i + 1 + 1 : Nat) : Int) := by rw [qt32, hg17]; omega
                          refine va_put (D := D) (ci := 4) (v := .int t32) (ty := .int) (C := RX4) (T := TX4) (N := 7) hx hb hg inC4 tyX4 tyX4_ok nmX4 hown hK hP hD hS 50 rfl rfl 4 (by decide) (hg _ wt2_69) (fun _ h9 => h9) rfl (by decide +kernel) rfl rfl (Nat.le_of_ble_eq_true rfl) dX4_takeOrderWord_154 (fun H locs hP hD hS => ?_)
                          have hP : va_P D vwCl (xX K r (upd f_18 1604 t32) a g tx) H := hP
                          have hD : va_D A (xX K r (upd f_18 1604 t32) a g tx) := hD
                          refine k_gen (P := fun z => va_P D vwCl (xX K r z a g tx) H ∧ va_D A (xX K r z a g tx) ∧ (xI z a) ∧ (gOK K g.2 tt) ∧ (xEk ([1604], [], []) f a g z a g) ∧ (xQ z a N ob T pl)) (upd f_18 1604 t32) ⟨hP, hD, (xI_f hI (fI_st hI.1 1604 (kb_any _) (by decide) (by decide))), hG, (xEk_f hE rfl), (xQ_f hk0 (by decide) (by decide))⟩ (fun f_35 ef_35 hq => ?_)
                          obtain ⟨hP, hD, hI, hG, hE, hk0⟩ := hq
                          refine lv_iload_n hx hb dX4_takeOrderWord_157 rfl (lv_at hl 1 rfl) ?_
                          refine lv_iload hx hb dX4_takeOrderWord_158 (lv_at hl 0 rfl) ?_
                          refine lv_iadd hx hb dX4_takeOrderWord_160 ?_
                          refine lv_topi (fun t36 et36 => ?_)
                          have b37 : kb 20 t36 25 := kb_eq et36 (kb_add kc_20 b29 (by decide) (by decide))
                          have qt36 : t36.toInt = 20 + v20.toInt := by rw [et36]; exact kt_cadd kc_20 b29 (by decide) (by decide)
                          exact kI_ret (v := t36) hx hb hr hlocks rfl hK hS dX4_takeOrderWord_161 (f_35, a, g) hP hD ⟨(kb_w b37 (by decide) (by decide)), hI, hG, hE, (Or.inr (Or.inl ⟨i_ne2 b37 (by decide +kernel), (by rw [(hp3.symm.trans c9)]; decide +kernel), (by rw [(hp3.symm.trans c9)]; decide +kernel), (by rw [(hp3.symm.trans c9), if_neg (by decide +kernel), ← hw19.2]; exact pIn_t ⟨(b29).1, by have w1 := (b29).2; omega⟩), (by show (f_35 1604).toInt = ((i + 1 + 1 : Nat) : Int); rw [(show f_35 1604 = t32 from by rw [← ef_35]; rfl)]; exact hg34), hlt30, (by rw [(hp3.symm.trans c9), wx_2027, ← hw19.2]; have w1 := qt36; have w2 := (b29).1; omega), (kb_w b37 (by decide) (by decide))⟩))⟩
                        · have h38 := (kc_nlt c27)
                          have b39 : kb 6 v20 4000 := kr_le2 h38 kc_6 b22
                          refine lv_iconst (v := (-1)) hx hb dX4_takeOrderWord_145 (by decide) ?_
                          exact kI_ret (v := (-1)) hx hb hr hlocks rfl hK hS dX4_takeOrderWord_146 (f_18, a, g) hP hD ⟨(kb_w kc_m1 (by decide) (by decide)), hI, hG, hE, (Or.inr (Or.inr (Or.inl ⟨rfl, (by rw [(hp3.symm.trans c9)]; decide +kernel), (by rw [(hp3.symm.trans c9)]; decide +kernel), (by rw [(hp3.symm.trans c9), if_neg (by decide +kernel), ← hw19.2]; exact pIn_f (fun q => by have w1 := (b39).1; have w2 := q.2; omega)), (by show (f_18 1604).toInt = ((i + 1 : Nat) : Int); rw [(show f_18 1604 = t15 from by rw [← ef_18]; rfl)]; exact hg17), hlt13⟩)))⟩
                      · exact kb_dj c26 kc_20 kc_4 (by decide)
                  · exact kb_dj c12 kc_20 kc_m1 (by decide)
              · have b40 : kb 2010 x 2010 := kb_eq c8 kc_2010
                refine lv_bipush (v := 14) hx hb dX4_takeOrderWord_81 (by decide) ?_
                refine lv_goto (tgt := 99) hx hb dX4_takeOrderWord_83 (by decide) ?_
                refine lv_istore_n (lv' := [(3, .int 14), (2, .int (-1)), (0, .ref (r 50)), (1, .int x)]) hx hb dX4_takeOrderWord_99 rfl hl (by decide) rfl (fun ls hl => ?_)
                refine lv_iload_n hx hb dX4_takeOrderWord_100 rfl (lv_at hl 0 rfl) ?_
                refine lv_iconst (v := (-1)) hx hb dX4_takeOrderWord_101 (by decide) ?_
                refine lv_icmp_ne (tgt := 107) hx hb dX4_takeOrderWord_102 (by decide) (fun c41 => ?_) (fun c41 => ?_)
                · refine lv_aload_n hx hb dX4_takeOrderWord_107 rfl (lv_at hl 2 rfl) ?_
                  refine lv_dup hx hb dX4_takeOrderWord_108 rfl ?_
                  have hlt42 : i < N := xQ_lt hk0 (ne_4000 (hp3.symm.trans c8) (by decide +kernel))
                  have b43 : kb 0 cz4 399 := kb_pos1 hlt42 hN4 hg0
                  refine va_get (D := D) (ci := 4) (v := .int (f 1604)) (C := RX4) (T := TX4) (N := 7) hx hb hg inC4 hown hK hP 50 rfl rfl 4 (by decide) (hg _ wt2_69) (fun _ h9 => h9) rfl dX4_takeOrderWord_109 ?_
                  refine k_top (z := cz4) ecz4.symm ?_
                  refine lv_iconst (v := 1) hx hb dX4_takeOrderWord_112 (by decide) ?_
                  refine lv_iadd hx hb dX4_takeOrderWord_113 ?_
                  refine lv_topi (fun t44 et44 => ?_)
                  have b45 : kb 1 t44 400 := kb_eq et44 (kb_add b43 kc_1 (by decide) (by decide))
                  have qt44 : t44.toInt = cz4.toInt + 1 := by rw [et44]; exact kt_addc b43 kc_1 (by decide) (by decide)
                  have hg46 : t44.toInt = ((i + 1 : Nat) : Int) := by rw [qt44, hg0]; omega
                  refine va_put (D := D) (ci := 4) (v := .int t44) (ty := .int) (C := RX4) (T := TX4) (N := 7) hx hb hg inC4 tyX4 tyX4_ok nmX4 hown hK hP hD hS 50 rfl rfl 4 (by decide) (hg _ wt2_69) (fun _ h9 => h9) rfl (by decide +kernel) rfl rfl (Nat.le_of_ble_eq_true rfl) dX4_takeOrderWord_114 (fun H locs hP hD hS => ?_)
                  have hP : va_P D vwCl (xX K r (upd f 1604 t44) a g tx) H := hP
                  have hD : va_D A (xX K r (upd f 1604 t44) a g tx) := hD
                  refine k_gen (P := fun z => va_P D vwCl (xX K r z a g tx) H ∧ va_D A (xX K r z a g tx) ∧ (xI z a) ∧ (gOK K g.2 tt) ∧ (xEk ([1604], [], []) f a g z a g) ∧ (xQ z a N ob T pl)) (upd f 1604 t44) ⟨hP, hD, (xI_f hI (fI_st hI.1 1604 (kb_any _) (by decide) (by decide))), hG, (xEk_f hE rfl), (xQ_f hk0 (by decide) (by decide))⟩ (fun f_47 ef_47 hq => ?_)
                  obtain ⟨hP, hD, hI, hG, hE, hk0⟩ := hq
                  refine lv_aload_n hx hb dX4_takeOrderWord_117 rfl (lv_at hl 2 rfl) ?_
                  refine kIG.callW (As := []) (rest := []) ⟨hx, hb, hml, hown, hg⟩ (y_inHand l r f_47 a g tx tt hT hI hG   N (i + 1) ob T pl hk0 (by rw [(show f_47 1604 = t44 from by rw [← ef_47]; rfl)]; exact hg46) hlt42) (cwV 0 hg (kgV wt3_238 wt4_0 wp1_12 wt1_7 wt4_1) rfl rfl rfl (by decide +kernel) ⟨by decide, by decide⟩) hV hK hP hD hS hA (50) 4 rfl rfl rfl hl.1 rfl (Nat.le_of_ble_eq_true rfl) dX4_takeOrderWord_118 ⟨Nat.le_refl _, Nat.le_refl _⟩ (fun v49 u50 H locs hw48 hP hD hS => ?_)
                  have hP : va_P D vwCl (xX K r f_47 a g tx) H := hP
                  have hD : va_D A (xX K r f_47 a g tx) := hD
                  have b51 : kb 0 v49 4000 := kb_eq hw48.2 (hk0.2.2.2.2.2.2 (i + 1))
                  refine lv_istore (lv' := [(4, .int v49), (3, .int 14), (2, .int (-1)), (0, .ref (r 50)), (1, .int x)]) hx hb dX4_takeOrderWord_121 hl (by decide) rfl (fun ls hl => ?_)
                  refine lv_iload hx hb dX4_takeOrderWord_123 (lv_at hl 0 rfl) ?_
                  refine lv_if_lt (tgt := 145) hx hb dX4_takeOrderWord_125 (by decide) (fun c52 => ?_) (fun c52 => ?_)
                  · have h53 := (kc_lt c52)
                    exact kb_no (kr_lt1 h53 b51 kc_0 (H := (-1)) (by decide)) (by decide)
                  · have h54 := (kc_nlt c52)
                    refine lv_iload hx hb dX4_takeOrderWord_128 (lv_at hl 0 rfl) ?_
                    refine lv_iload_n hx hb dX4_takeOrderWord_130 rfl (lv_at hl 1 rfl) ?_
                    refine lv_iconst (v := 4) hx hb dX4_takeOrderWord_131 (by decide) ?_
                    refine lv_icmp_ne (tgt := 140) hx hb dX4_takeOrderWord_132 (by decide) (fun c55 => ?_) (fun c55 => ?_)
                    · refine lv_bipush (v := 6) hx hb dX4_takeOrderWord_140 (by decide) ?_
                      refine lv_icmp_lt (tgt := 147) hx hb dX4_takeOrderWord_142 (by decide) (fun c56 => ?_) (fun c56 => ?_)
                      · have h57 := (kc_lt c56)
                        have b58 : kb 0 v49 5 := kr_lt1 h57 b51 kc_6 (by decide)
                        refine lv_aload_n hx hb dX4_takeOrderWord_147 rfl (lv_at hl 3 rfl) ?_
                        refine lv_dup hx hb dX4_takeOrderWord_148 rfl ?_
                        have hlt59 : i + 1 < N := xQ_lt hk0 (fun q => by have w1 := (b58).2; have w2 := congrArg Int32.toInt ((hw48.2).trans q); have w3 := i4000; omega)
                        have b60 : kb 0 t44 399 := kb_pos1 hlt59 hN4 hg46
                        refine va_get (D := D) (ci := 4) (v := .int (f_47 1604)) (C := RX4) (T := TX4) (N := 7) hx hb hg inC4 hown hK hP 50 rfl rfl 4 (by decide) (hg _ wt2_69) (fun _ h9 => h9) rfl dX4_takeOrderWord_149 ?_
                        refine k_top (z := t44) (show f_47 1604 = t44 from by rw [← ef_47]; rfl) ?_
                        refine lv_iconst (v := 1) hx hb dX4_takeOrderWord_152 (by decide) ?_
                        refine lv_iadd hx hb dX4_takeOrderWord_153 ?_
                        refine lv_topi (fun t61 et61 => ?_)
                        have b62 : kb 1 t61 400 := kb_eq et61 (kb_add b60 kc_1 (by decide) (by decide))
                        have qt61 : t61.toInt = t44.toInt + 1 := by rw [et61]; exact kt_addc b60 kc_1 (by decide) (by decide)
                        have hg63 : t61.toInt = ((i + 1 + 1 : Nat) : Int) := by rw [qt61, hg46]; omega
                        refine va_put (D := D) (ci := 4) (v := .int t61) (ty := .int) (C := RX4) (T := TX4) (N := 7) hx hb hg inC4 tyX4 tyX4_ok nmX4 hown hK hP hD hS 50 rfl rfl 4 (by decide) (hg _ wt2_69) (fun _ h9 => h9) rfl (by decide +kernel) rfl rfl (Nat.le_of_ble_eq_true rfl) dX4_takeOrderWord_154 (fun H locs hP hD hS => ?_)
                        have hP : va_P D vwCl (xX K r (upd f_47 1604 t61) a g tx) H := hP
                        have hD : va_D A (xX K r (upd f_47 1604 t61) a g tx) := hD
                        refine k_gen (P := fun z => va_P D vwCl (xX K r z a g tx) H ∧ va_D A (xX K r z a g tx) ∧ (xI z a) ∧ (gOK K g.2 tt) ∧ (xEk ([1604], [], []) f a g z a g) ∧ (xQ z a N ob T pl)) (upd f_47 1604 t61) ⟨hP, hD, (xI_f hI (fI_st hI.1 1604 (kb_any _) (by decide) (by decide))), hG, (xEk_f hE rfl), (xQ_f hk0 (by decide) (by decide))⟩ (fun f_64 ef_64 hq => ?_)
                        obtain ⟨hP, hD, hI, hG, hE, hk0⟩ := hq
                        refine lv_iload_n hx hb dX4_takeOrderWord_157 rfl (lv_at hl 1 rfl) ?_
                        refine lv_iload hx hb dX4_takeOrderWord_158 (lv_at hl 0 rfl) ?_
                        refine lv_iadd hx hb dX4_takeOrderWord_160 ?_
                        refine lv_topi (fun t65 et65 => ?_)
                        have b66 : kb 14 t65 19 := kb_eq et65 (kb_add kc_14 b58 (by decide) (by decide))
                        have qt65 : t65.toInt = 14 + v49.toInt := by rw [et65]; exact kt_cadd kc_14 b58 (by decide) (by decide)
                        exact kI_ret (v := t65) hx hb hr hlocks rfl hK hS dX4_takeOrderWord_161 (f_64, a, g) hP hD ⟨(kb_w b66 (by decide) (by decide)), hI, hG, hE, (Or.inr (Or.inl ⟨i_ne2 b66 (by decide +kernel), (by rw [(hp3.symm.trans c8)]; decide +kernel), (by rw [(hp3.symm.trans c8)]; decide +kernel), (by rw [(hp3.symm.trans c8), if_neg (by decide +kernel), ← hw48.2]; exact pIn_t ⟨(b58).1, by have w1 := (b58).2; omega⟩), (by show (f_64 1604).toInt = ((i + 1 + 1 : Nat) : Int); rw [(show f_64 1604 = t61 from by rw [← ef_64]; rfl)]; exact hg63), hlt59, (by rw [(hp3.symm.trans c8), wx_2010, ← hw48.2]; have w1 := qt65; have w2 := (b58).1; omega), (kb_w b66 (by decide) (by decide))⟩))⟩
                      · have h67 := (kc_nlt c56)
                        have b68 : kb 6 v49 4000 := kr_le2 h67 kc_6 b51
                        refine lv_iconst (v := (-1)) hx hb dX4_takeOrderWord_145 (by decide) ?_
                        exact kI_ret (v := (-1)) hx hb hr hlocks rfl hK hS dX4_takeOrderWord_146 (f_47, a, g) hP hD ⟨(kb_w kc_m1 (by decide) (by decide)), hI, hG, hE, (Or.inr (Or.inr (Or.inl ⟨rfl, (by rw [(hp3.symm.trans c8)]; decide +kernel), (by rw [(hp3.symm.trans c8)]; decide +kernel), (by rw [(hp3.symm.trans c8), if_neg (by decide +kernel), ← hw48.2]; exact pIn_f (fun q => by have w1 := (b68).1; have w2 := q.2; omega)), (by show (f_47 1604).toInt = ((i + 1 : Nat) : Int); rw [(show f_47 1604 = t44 from by rw [← ef_47]; rfl)]; exact hg46), hlt42⟩)))⟩
                    · exact kb_dj c55 kc_14 kc_4 (by decide)
                · exact kb_dj c41 kc_14 kc_m1 (by decide)
            · have b69 : kb 2014 x 2014 := kb_eq c7 kc_2014
              refine lv_iconst (v := 4) hx hb dX4_takeOrderWord_70 (by decide) ?_
              refine lv_goto (tgt := 99) hx hb dX4_takeOrderWord_71 (by decide) ?_
              refine lv_istore_n (lv' := [(3, .int 4), (2, .int (-1)), (0, .ref (r 50)), (1, .int x)]) hx hb dX4_takeOrderWord_99 rfl hl (by decide) rfl (fun ls hl => ?_)
              refine lv_iload_n hx hb dX4_takeOrderWord_100 rfl (lv_at hl 0 rfl) ?_
              refine lv_iconst (v := (-1)) hx hb dX4_takeOrderWord_101 (by decide) ?_
              refine lv_icmp_ne (tgt := 107) hx hb dX4_takeOrderWord_102 (by decide) (fun c70 => ?_) (fun c70 => ?_)
              · refine lv_aload_n hx hb dX4_takeOrderWord_107 rfl (lv_at hl 2 rfl) ?_
                refine lv_dup hx hb dX4_takeOrderWord_108 rfl ?_
                have hlt71 : i < N := xQ_lt hk0 (ne_4000 (hp3.symm.trans c7) (by decide +kernel))
                have b72 : kb 0 cz4 399 := kb_pos1 hlt71 hN4 hg0
                refine va_get (D := D) (ci := 4) (v := .int (f 1604)) (C := RX4) (T := TX4) (N := 7) hx hb hg inC4 hown hK hP 50 rfl rfl 4 (by decide) (hg _ wt2_69) (fun _ h9 => h9) rfl dX4_takeOrderWord_109 ?_
                refine k_top (z := cz4) ecz4.symm ?_
                refine lv_iconst (v := 1) hx hb dX4_takeOrderWord_112 (by decide) ?_
                refine lv_iadd hx hb dX4_takeOrderWord_113 ?_
                refine lv_topi (fun t73 et73 => ?_)
                have b74 : kb 1 t73 400 := kb_eq et73 (kb_add b72 kc_1 (by decide) (by decide))
                have qt73 : t73.toInt = cz4.toInt + 1 := by rw [et73]; exact kt_addc b72 kc_1 (by decide) (by decide)
                have hg75 : t73.toInt = ((i + 1 : Nat) : Int) := by rw [qt73, hg0]; omega
                refine va_put (D := D) (ci := 4) (v := .int t73) (ty := .int) (C := RX4) (T := TX4) (N := 7) hx hb hg inC4 tyX4 tyX4_ok nmX4 hown hK hP hD hS 50 rfl rfl 4 (by decide) (hg _ wt2_69) (fun _ h9 => h9) rfl (by decide +kernel) rfl rfl (Nat.le_of_ble_eq_true rfl) dX4_takeOrderWord_114 (fun H locs hP hD hS => ?_)
                have hP : va_P D vwCl (xX K r (upd f 1604 t73) a g tx) H := hP
                have hD : va_D A (xX K r (upd f 1604 t73) a g tx) := hD
                refine k_gen (P := fun z => va_P D vwCl (xX K r z a g tx) H ∧ va_D A (xX K r z a g tx) ∧ (xI z a) ∧ (gOK K g.2 tt) ∧ (xEk ([1604], [], []) f a g z a g) ∧ (xQ z a N ob T pl)) (upd f 1604 t73) ⟨hP, hD, (xI_f hI (fI_st hI.1 1604 (kb_any _) (by decide) (by decide))), hG, (xEk_f hE rfl), (xQ_f hk0 (by decide) (by decide))⟩ (fun f_76 ef_76 hq => ?_)
                obtain ⟨hP, hD, hI, hG, hE, hk0⟩ := hq
                refine lv_aload_n hx hb dX4_takeOrderWord_117 rfl (lv_at hl 2 rfl) ?_
                refine kIG.callW (As := []) (rest := []) ⟨hx, hb, hml, hown, hg⟩ (y_inHand l r f_76 a g tx tt hT hI hG   N (i + 1) ob T pl hk0 (by rw [(show f_76 1604 = t73 from by rw [← ef_76]; rfl)]; exact hg75) hlt71) (cwV 0 hg (kgV wt3_238 wt4_0 wp1_12 wt1_7 wt4_1) rfl rfl rfl (by decide +kernel) ⟨by decide, by decide⟩) hV hK hP hD hS hA (50) 4 rfl rfl rfl hl.1 rfl (Nat.le_of_ble_eq_true rfl) dX4_takeOrderWord_118 ⟨Nat.le_refl _, Nat.le_refl _⟩ (fun v78 u79 H locs hw77 hP hD hS => ?_)
                have hP : va_P D vwCl (xX K r f_76 a g tx) H := hP
                have hD : va_D A (xX K r f_76 a g tx) := hD
                have b80 : kb 0 v78 4000 := kb_eq hw77.2 (hk0.2.2.2.2.2.2 (i + 1))
                refine lv_istore (lv' := [(4, .int v78), (3, .int 4), (2, .int (-1)), (0, .ref (r 50)), (1, .int x)]) hx hb dX4_takeOrderWord_121 hl (by decide) rfl (fun ls hl => ?_)
                refine lv_iload hx hb dX4_takeOrderWord_123 (lv_at hl 0 rfl) ?_
                refine lv_if_lt (tgt := 145) hx hb dX4_takeOrderWord_125 (by decide) (fun c81 => ?_) (fun c81 => ?_)
                · have h82 := (kc_lt c81)
                  exact kb_no (kr_lt1 h82 b80 kc_0 (H := (-1)) (by decide)) (by decide)
                · have h83 := (kc_nlt c81)
                  refine lv_iload hx hb dX4_takeOrderWord_128 (lv_at hl 0 rfl) ?_
                  refine lv_iload_n hx hb dX4_takeOrderWord_130 rfl (lv_at hl 1 rfl) ?_
                  refine lv_iconst (v := 4) hx hb dX4_takeOrderWord_131 (by decide) ?_
                  refine lv_icmp_ne (tgt := 140) hx hb dX4_takeOrderWord_132 (by decide) (fun c84 => ?_) (fun c84 => ?_)
                  · exact kb_nsame c84 kc_4 kc_4
                  · refine lv_bipush (v := 10) hx hb dX4_takeOrderWord_135 (by decide) ?_
                    refine lv_goto (tgt := 142) hx hb dX4_takeOrderWord_137 (by decide) ?_
                    refine lv_icmp_lt (tgt := 147) hx hb dX4_takeOrderWord_142 (by decide) (fun c85 => ?_) (fun c85 => ?_)
                    · have h86 := (kc_lt c85)
                      have b87 : kb 0 v78 9 := kr_lt1 h86 b80 kc_10 (by decide)
                      refine lv_aload_n hx hb dX4_takeOrderWord_147 rfl (lv_at hl 3 rfl) ?_
                      refine lv_dup hx hb dX4_takeOrderWord_148 rfl ?_
                      have hlt88 : i + 1 < N := xQ_lt hk0 (fun q => by have w1 := (b87).2; have w2 := congrArg Int32.toInt ((hw77.2).trans q); have w3 := i4000; omega)
                      have b89 : kb 0 t73 399 := kb_pos1 hlt88 hN4 hg75
                      refine va_get (D := D) (ci := 4) (v := .int (f_76 1604)) (C := RX4) (T := TX4) (N := 7) hx hb hg inC4 hown hK hP 50 rfl rfl 4 (by decide) (hg _ wt2_69) (fun _ h9 => h9) rfl dX4_takeOrderWord_149 ?_
                      refine k_top (z := t73) (show f_76 1604 = t73 from by rw [← ef_76]; rfl) ?_
                      refine lv_iconst (v := 1) hx hb dX4_takeOrderWord_152 (by decide) ?_
                      refine lv_iadd hx hb dX4_takeOrderWord_153 ?_
                      refine lv_topi (fun t90 et90 => ?_)
                      have b91 : kb 1 t90 400 := kb_eq et90 (kb_add b89 kc_1 (by decide) (by decide))
                      have qt90 : t90.toInt = t73.toInt + 1 := by rw [et90]; exact kt_addc b89 kc_1 (by decide) (by decide)
                      have hg92 : t90.toInt = ((i + 1 + 1 : Nat) : Int) := by rw [qt90, hg75]; omega
                      refine va_put (D := D) (ci := 4) (v := .int t90) (ty := .int) (C := RX4) (T := TX4) (N := 7) hx hb hg inC4 tyX4 tyX4_ok nmX4 hown hK hP hD hS 50 rfl rfl 4 (by decide) (hg _ wt2_69) (fun _ h9 => h9) rfl (by decide +kernel) rfl rfl (Nat.le_of_ble_eq_true rfl) dX4_takeOrderWord_154 (fun H locs hP hD hS => ?_)
                      have hP : va_P D vwCl (xX K r (upd f_76 1604 t90) a g tx) H := hP
                      have hD : va_D A (xX K r (upd f_76 1604 t90) a g tx) := hD
                      refine k_gen (P := fun z => va_P D vwCl (xX K r z a g tx) H ∧ va_D A (xX K r z a g tx) ∧ (xI z a) ∧ (gOK K g.2 tt) ∧ (xEk ([1604], [], []) f a g z a g) ∧ (xQ z a N ob T pl)) (upd f_76 1604 t90) ⟨hP, hD, (xI_f hI (fI_st hI.1 1604 (kb_any _) (by decide) (by decide))), hG, (xEk_f hE rfl), (xQ_f hk0 (by decide) (by decide))⟩ (fun f_93 ef_93 hq => ?_)
                      obtain ⟨hP, hD, hI, hG, hE, hk0⟩ := hq
                      refine lv_iload_n hx hb dX4_takeOrderWord_157 rfl (lv_at hl 1 rfl) ?_
                      refine lv_iload hx hb dX4_takeOrderWord_158 (lv_at hl 0 rfl) ?_
                      refine lv_iadd hx hb dX4_takeOrderWord_160 ?_
                      refine lv_topi (fun t94 et94 => ?_)
                      have b95 : kb 4 t94 13 := kb_eq et94 (kb_add kc_4 b87 (by decide) (by decide))
                      have qt94 : t94.toInt = 4 + v78.toInt := by rw [et94]; exact kt_cadd kc_4 b87 (by decide) (by decide)
                      exact kI_ret (v := t94) hx hb hr hlocks rfl hK hS dX4_takeOrderWord_161 (f_93, a, g) hP hD ⟨(kb_w b95 (by decide) (by decide)), hI, hG, hE, (Or.inr (Or.inl ⟨i_ne2 b95 (by decide +kernel), (by rw [(hp3.symm.trans c7)]; decide +kernel), (by rw [(hp3.symm.trans c7)]; decide +kernel), (by rw [(hp3.symm.trans c7), if_pos rfl, ← hw77.2]; exact pIn_t ⟨(b87).1, by have w1 := (b87).2; omega⟩), (by show (f_93 1604).toInt = ((i + 1 + 1 : Nat) : Int); rw [(show f_93 1604 = t90 from by rw [← ef_93]; rfl)]; exact hg92), hlt88, (by rw [(hp3.symm.trans c7), wx_2014, ← hw77.2]; have w1 := qt94; have w2 := (b87).1; omega), (kb_w b95 (by decide) (by decide))⟩))⟩
                    · have h96 := (kc_nlt c85)
                      have b97 : kb 10 v78 4000 := kr_le2 h96 kc_10 b80
                      refine lv_iconst (v := (-1)) hx hb dX4_takeOrderWord_145 (by decide) ?_
                      exact kI_ret (v := (-1)) hx hb hr hlocks rfl hK hS dX4_takeOrderWord_146 (f_76, a, g) hP hD ⟨(kb_w kc_m1 (by decide) (by decide)), hI, hG, hE, (Or.inr (Or.inr (Or.inl ⟨rfl, (by rw [(hp3.symm.trans c7)]; decide +kernel), (by rw [(hp3.symm.trans c7)]; decide +kernel), (by rw [(hp3.symm.trans c7), if_pos rfl, ← hw77.2]; exact pIn_f (fun q => by have w1 := (b97).1; have w2 := q.2; omega)), (by show (f_76 1604).toInt = ((i + 1 : Nat) : Int); rw [(show f_76 1604 = t73 from by rw [← ef_76]; rfl)]; exact hg75), hlt71⟩)))⟩
              · exact kb_dj c70 kc_4 kc_m1 (by decide)
          · exact kb_nsame c6 kc_m1 kc_m1
        · have b98 : kb 2026 x 2026 := kb_eq c5 kc_2026
          refine lv_iconst (v := 3) hx hb dX4_takeOrderWord_40 (by decide) ?_
          refine lv_goto (tgt := 45) hx hb dX4_takeOrderWord_41 (by decide) ?_
          refine lv_istore_n (lv' := [(2, .int 3), (0, .ref (r 50)), (1, .int x)]) hx hb dX4_takeOrderWord_45 rfl hl (by decide) rfl (fun ls hl => ?_)
          refine lv_iload_n hx hb dX4_takeOrderWord_46 rfl (lv_at hl 0 rfl) ?_
          refine lv_iconst (v := (-1)) hx hb dX4_takeOrderWord_47 (by decide) ?_
          refine lv_icmp_eq (tgt := 63) hx hb dX4_takeOrderWord_48 (by decide) (fun c99 => ?_) (fun c99 => ?_)
          · exact kb_dj c99 kc_3 kc_m1 (by decide)
          · refine lv_aload_n hx hb dX4_takeOrderWord_51 rfl (lv_at hl 1 rfl) ?_
            refine lv_dup hx hb dX4_takeOrderWord_52 rfl ?_
            have hlt100 : i < N := xQ_lt hk0 (ne_4000 (hp3.symm.trans c5) (by decide +kernel))
            have b101 : kb 0 cz4 399 := kb_pos1 hlt100 hN4 hg0
            refine va_get (D := D) (ci := 4) (v := .int (f 1604)) (C := RX4) (T := TX4) (N := 7) hx hb hg inC4 hown hK hP 50 rfl rfl 4 (by decide) (hg _ wt2_69) (fun _ h9 => h9) rfl dX4_takeOrderWord_53 ?_
            refine k_top (z := cz4) ecz4.symm ?_
            refine lv_iconst (v := 1) hx hb dX4_takeOrderWord_56 (by decide) ?_
            refine lv_iadd hx hb dX4_takeOrderWord_57 ?_
            refine lv_topi (fun t102 et102 => ?_)
            have b103 : kb 1 t102 400 := kb_eq et102 (kb_add b101 kc_1 (by decide) (by decide))
            have qt102 : t102.toInt = cz4.toInt + 1 := by rw [et102]; exact kt_addc b101 kc_1 (by decide) (by decide)
            have hg104 : t102.toInt = ((i + 1 : Nat) : Int) := by rw [qt102, hg0]; omega
            refine va_put (D := D) (ci := 4) (v := .int t102) (ty := .int) (C := RX4) (T := TX4) (N := 7) hx hb hg inC4 tyX4 tyX4_ok nmX4 hown hK hP hD hS 50 rfl rfl 4 (by decide) (hg _ wt2_69) (fun _ h9 => h9) rfl (by decide +kernel) rfl rfl (Nat.le_of_ble_eq_true rfl) dX4_takeOrderWord_58 (fun H locs hP hD hS => ?_)
            have hP : va_P D vwCl (xX K r (upd f 1604 t102) a g tx) H := hP
            have hD : va_D A (xX K r (upd f 1604 t102) a g tx) := hD
            refine k_gen (P := fun z => va_P D vwCl (xX K r z a g tx) H ∧ va_D A (xX K r z a g tx) ∧ (xI z a) ∧ (gOK K g.2 tt) ∧ (xEk ([1604], [], []) f a g z a g) ∧ (xQ z a N ob T pl)) (upd f 1604 t102) ⟨hP, hD, (xI_f hI (fI_st hI.1 1604 (kb_any _) (by decide) (by decide))), hG, (xEk_f hE rfl), (xQ_f hk0 (by decide) (by decide))⟩ (fun f_105 ef_105 hq => ?_)
            obtain ⟨hP, hD, hI, hG, hE, hk0⟩ := hq
            refine lv_iload_n hx hb dX4_takeOrderWord_61 rfl (lv_at hl 0 rfl) ?_
            exact kI_ret (v := 3) hx hb hr hlocks rfl hK hS dX4_takeOrderWord_62 (f_105, a, g) hP hD ⟨(kb_w kc_3 (by decide) (by decide)), hI, hG, hE, (Or.inl ⟨(by decide +kernel), (by rw [(hp3.symm.trans c5)]; decide +kernel), (by rw [(hp3.symm.trans c5)]; decide +kernel), (by show (f_105 1604).toInt = ((i + 1 : Nat) : Int); rw [(show f_105 1604 = t102 from by rw [← ef_105]; rfl)]; exact hg104), hlt100, (by rw [(hp3.symm.trans c5), wx_2026]; decide +kernel), (kb_w kc_3 (by decide) (by decide))⟩)⟩
      · have b106 : kb 2025 x 2025 := kb_eq c4 kc_2025
        refine lv_iconst (v := 2) hx hb dX4_takeOrderWord_29 (by decide) ?_
        refine lv_goto (tgt := 45) hx hb dX4_takeOrderWord_30 (by decide) ?_
        refine lv_istore_n (lv' := [(2, .int 2), (0, .ref (r 50)), (1, .int x)]) hx hb dX4_takeOrderWord_45 rfl hl (by decide) rfl (fun ls hl => ?_)
        refine lv_iload_n hx hb dX4_takeOrderWord_46 rfl (lv_at hl 0 rfl) ?_
        refine lv_iconst (v := (-1)) hx hb dX4_takeOrderWord_47 (by decide) ?_
        refine lv_icmp_eq (tgt := 63) hx hb dX4_takeOrderWord_48 (by decide) (fun c107 => ?_) (fun c107 => ?_)
        · exact kb_dj c107 kc_2 kc_m1 (by decide)
        · refine lv_aload_n hx hb dX4_takeOrderWord_51 rfl (lv_at hl 1 rfl) ?_
          refine lv_dup hx hb dX4_takeOrderWord_52 rfl ?_
          have hlt108 : i < N := xQ_lt hk0 (ne_4000 (hp3.symm.trans c4) (by decide +kernel))
          have b109 : kb 0 cz4 399 := kb_pos1 hlt108 hN4 hg0
          refine va_get (D := D) (ci := 4) (v := .int (f 1604)) (C := RX4) (T := TX4) (N := 7) hx hb hg inC4 hown hK hP 50 rfl rfl 4 (by decide) (hg _ wt2_69) (fun _ h9 => h9) rfl dX4_takeOrderWord_53 ?_
          refine k_top (z := cz4) ecz4.symm ?_
          refine lv_iconst (v := 1) hx hb dX4_takeOrderWord_56 (by decide) ?_
          refine lv_iadd hx hb dX4_takeOrderWord_57 ?_
          refine lv_topi (fun t110 et110 => ?_)
          have b111 : kb 1 t110 400 := kb_eq et110 (kb_add b109 kc_1 (by decide) (by decide))
          have qt110 : t110.toInt = cz4.toInt + 1 := by rw [et110]; exact kt_addc b109 kc_1 (by decide) (by decide)
          have hg112 : t110.toInt = ((i + 1 : Nat) : Int) := by rw [qt110, hg0]; omega
          refine va_put (D := D) (ci := 4) (v := .int t110) (ty := .int) (C := RX4) (T := TX4) (N := 7) hx hb hg inC4 tyX4 tyX4_ok nmX4 hown hK hP hD hS 50 rfl rfl 4 (by decide) (hg _ wt2_69) (fun _ h9 => h9) rfl (by decide +kernel) rfl rfl (Nat.le_of_ble_eq_true rfl) dX4_takeOrderWord_58 (fun H locs hP hD hS => ?_)
          have hP : va_P D vwCl (xX K r (upd f 1604 t110) a g tx) H := hP
          have hD : va_D A (xX K r (upd f 1604 t110) a g tx) := hD
          refine k_gen (P := fun z => va_P D vwCl (xX K r z a g tx) H ∧ va_D A (xX K r z a g tx) ∧ (xI z a) ∧ (gOK K g.2 tt) ∧ (xEk ([1604], [], []) f a g z a g) ∧ (xQ z a N ob T pl)) (upd f 1604 t110) ⟨hP, hD, (xI_f hI (fI_st hI.1 1604 (kb_any _) (by decide) (by decide))), hG, (xEk_f hE rfl), (xQ_f hk0 (by decide) (by decide))⟩ (fun f_113 ef_113 hq => ?_)
          obtain ⟨hP, hD, hI, hG, hE, hk0⟩ := hq
          refine lv_iload_n hx hb dX4_takeOrderWord_61 rfl (lv_at hl 0 rfl) ?_
          exact kI_ret (v := 2) hx hb hr hlocks rfl hK hS dX4_takeOrderWord_62 (f_113, a, g) hP hD ⟨(kb_w kc_2 (by decide) (by decide)), hI, hG, hE, (Or.inl ⟨(by decide +kernel), (by rw [(hp3.symm.trans c4)]; decide +kernel), (by rw [(hp3.symm.trans c4)]; decide +kernel), (by show (f_113 1604).toInt = ((i + 1 : Nat) : Int); rw [(show f_113 1604 = t110 from by rw [← ef_113]; rfl)]; exact hg112), hlt108, (by rw [(hp3.symm.trans c4), wx_2025]; decide +kernel), (kb_w kc_2 (by decide) (by decide))⟩)⟩
    · have b114 : kb 2024 x 2024 := kb_eq c3 kc_2024
      refine lv_iconst (v := 1) hx hb dX4_takeOrderWord_18 (by decide) ?_
      refine lv_goto (tgt := 45) hx hb dX4_takeOrderWord_19 (by decide) ?_
      refine lv_istore_n (lv' := [(2, .int 1), (0, .ref (r 50)), (1, .int x)]) hx hb dX4_takeOrderWord_45 rfl hl (by decide) rfl (fun ls hl => ?_)
      refine lv_iload_n hx hb dX4_takeOrderWord_46 rfl (lv_at hl 0 rfl) ?_
      refine lv_iconst (v := (-1)) hx hb dX4_takeOrderWord_47 (by decide) ?_
      refine lv_icmp_eq (tgt := 63) hx hb dX4_takeOrderWord_48 (by decide) (fun c115 => ?_) (fun c115 => ?_)
      · exact kb_dj c115 kc_1 kc_m1 (by decide)
      · refine lv_aload_n hx hb dX4_takeOrderWord_51 rfl (lv_at hl 1 rfl) ?_
        refine lv_dup hx hb dX4_takeOrderWord_52 rfl ?_
        have hlt116 : i < N := xQ_lt hk0 (ne_4000 (hp3.symm.trans c3) (by decide +kernel))
        have b117 : kb 0 cz4 399 := kb_pos1 hlt116 hN4 hg0
        refine va_get (D := D) (ci := 4) (v := .int (f 1604)) (C := RX4) (T := TX4) (N := 7) hx hb hg inC4 hown hK hP 50 rfl rfl 4 (by decide) (hg _ wt2_69) (fun _ h9 => h9) rfl dX4_takeOrderWord_53 ?_
        refine k_top (z := cz4) ecz4.symm ?_
        refine lv_iconst (v := 1) hx hb dX4_takeOrderWord_56 (by decide) ?_
        refine lv_iadd hx hb dX4_takeOrderWord_57 ?_
        refine lv_topi (fun t118 et118 => ?_)
        have b119 : kb 1 t118 400 := kb_eq et118 (kb_add b117 kc_1 (by decide) (by decide))
        have qt118 : t118.toInt = cz4.toInt + 1 := by rw [et118]; exact kt_addc b117 kc_1 (by decide) (by decide)
        have hg120 : t118.toInt = ((i + 1 : Nat) : Int) := by rw [qt118, hg0]; omega
        refine va_put (D := D) (ci := 4) (v := .int t118) (ty := .int) (C := RX4) (T := TX4) (N := 7) hx hb hg inC4 tyX4 tyX4_ok nmX4 hown hK hP hD hS 50 rfl rfl 4 (by decide) (hg _ wt2_69) (fun _ h9 => h9) rfl (by decide +kernel) rfl rfl (Nat.le_of_ble_eq_true rfl) dX4_takeOrderWord_58 (fun H locs hP hD hS => ?_)
        have hP : va_P D vwCl (xX K r (upd f 1604 t118) a g tx) H := hP
        have hD : va_D A (xX K r (upd f 1604 t118) a g tx) := hD
        refine k_gen (P := fun z => va_P D vwCl (xX K r z a g tx) H ∧ va_D A (xX K r z a g tx) ∧ (xI z a) ∧ (gOK K g.2 tt) ∧ (xEk ([1604], [], []) f a g z a g) ∧ (xQ z a N ob T pl)) (upd f 1604 t118) ⟨hP, hD, (xI_f hI (fI_st hI.1 1604 (kb_any _) (by decide) (by decide))), hG, (xEk_f hE rfl), (xQ_f hk0 (by decide) (by decide))⟩ (fun f_121 ef_121 hq => ?_)
        obtain ⟨hP, hD, hI, hG, hE, hk0⟩ := hq
        refine lv_iload_n hx hb dX4_takeOrderWord_61 rfl (lv_at hl 0 rfl) ?_
        exact kI_ret (v := 1) hx hb hr hlocks rfl hK hS dX4_takeOrderWord_62 (f_121, a, g) hP hD ⟨(kb_w kc_1 (by decide) (by decide)), hI, hG, hE, (Or.inl ⟨(by decide +kernel), (by rw [(hp3.symm.trans c3)]; decide +kernel), (by rw [(hp3.symm.trans c3)]; decide +kernel), (by show (f_121 1604).toInt = ((i + 1 : Nat) : Int); rw [(show f_121 1604 = t118 from by rw [← ef_121]; rfl)]; exact hg120), hlt116, (by rw [(hp3.symm.trans c3), wx_2024]; decide +kernel), (kb_w kc_1 (by decide) (by decide))⟩)⟩
  · have b122 : kb 2016 x 2016 := kb_eq c2 kc_2016
    refine lv_iconst (v := 0) hx hb dX4_takeOrderWord_7 (by decide) ?_
    refine lv_goto (tgt := 45) hx hb dX4_takeOrderWord_8 (by decide) ?_
    refine lv_istore_n (lv' := [(2, .int 0), (0, .ref (r 50)), (1, .int x)]) hx hb dX4_takeOrderWord_45 rfl hl (by decide) rfl (fun ls hl => ?_)
    refine lv_iload_n hx hb dX4_takeOrderWord_46 rfl (lv_at hl 0 rfl) ?_
    refine lv_iconst (v := (-1)) hx hb dX4_takeOrderWord_47 (by decide) ?_
    refine lv_icmp_eq (tgt := 63) hx hb dX4_takeOrderWord_48 (by decide) (fun c123 => ?_) (fun c123 => ?_)
    · exact kb_dj c123 kc_0 kc_m1 (by decide)
    · refine lv_aload_n hx hb dX4_takeOrderWord_51 rfl (lv_at hl 1 rfl) ?_
      refine lv_dup hx hb dX4_takeOrderWord_52 rfl ?_
      have hlt124 : i < N := xQ_lt hk0 (ne_4000 (hp3.symm.trans c2) (by decide +kernel))
      have b125 : kb 0 cz4 399 := kb_pos1 hlt124 hN4 hg0
      refine va_get (D := D) (ci := 4) (v := .int (f 1604)) (C := RX4) (T := TX4) (N := 7) hx hb hg inC4 hown hK hP 50 rfl rfl 4 (by decide) (hg _ wt2_69) (fun _ h9 => h9) rfl dX4_takeOrderWord_53 ?_
      refine k_top (z := cz4) ecz4.symm ?_
      refine lv_iconst (v := 1) hx hb dX4_takeOrderWord_56 (by decide) ?_
      refine lv_iadd hx hb dX4_takeOrderWord_57 ?_
      refine lv_topi (fun t126 et126 => ?_)
      have b127 : kb 1 t126 400 := kb_eq et126 (kb_add b125 kc_1 (by decide) (by decide))
      have qt126 : t126.toInt = cz4.toInt + 1 := by rw [et126]; exact kt_addc b125 kc_1 (by decide) (by decide)
      have hg128 : t126.toInt = ((i + 1 : Nat) : Int) := by rw [qt126, hg0]; omega
      refine va_put (D := D) (ci := 4) (v := .int t126) (ty := .int) (C := RX4) (T := TX4) (N := 7) hx hb hg inC4 tyX4 tyX4_ok nmX4 hown hK hP hD hS 50 rfl rfl 4 (by decide) (hg _ wt2_69) (fun _ h9 => h9) rfl (by decide +kernel) rfl rfl (Nat.le_of_ble_eq_true rfl) dX4_takeOrderWord_58 (fun H locs hP hD hS => ?_)
      have hP : va_P D vwCl (xX K r (upd f 1604 t126) a g tx) H := hP
      have hD : va_D A (xX K r (upd f 1604 t126) a g tx) := hD
      refine k_gen (P := fun z => va_P D vwCl (xX K r z a g tx) H ∧ va_D A (xX K r z a g tx) ∧ (xI z a) ∧ (gOK K g.2 tt) ∧ (xEk ([1604], [], []) f a g z a g) ∧ (xQ z a N ob T pl)) (upd f 1604 t126) ⟨hP, hD, (xI_f hI (fI_st hI.1 1604 (kb_any _) (by decide) (by decide))), hG, (xEk_f hE rfl), (xQ_f hk0 (by decide) (by decide))⟩ (fun f_129 ef_129 hq => ?_)
      obtain ⟨hP, hD, hI, hG, hE, hk0⟩ := hq
      refine lv_iload_n hx hb dX4_takeOrderWord_61 rfl (lv_at hl 0 rfl) ?_
      exact kI_ret (v := 0) hx hb hr hlocks rfl hK hS dX4_takeOrderWord_62 (f_129, a, g) hP hD ⟨(kb_w kc_0 (by decide) (by decide)), hI, hG, hE, (Or.inl ⟨(by decide +kernel), (by rw [(hp3.symm.trans c2)]; decide +kernel), (by rw [(hp3.symm.trans c2)]; decide +kernel), (by show (f_129 1604).toInt = ((i + 1 : Nat) : Int); rw [(show f_129 1604 = t126 from by rw [← ef_129]; rfl)]; exact hg128), hlt124, (by rw [(hp3.symm.trans c2), wx_2016]; decide +kernel), (kb_w kc_0 (by decide) (by decide))⟩)⟩
set_option maxHeartbeats 4000000 in
def eXSum (d : Nat) : Prop := ∀ (l : Launch) {D : va_G} {K : Nat → ClassId} (r : Nat → Nat) (f : Nat → Int32) (a : Nat → Nat → Int32) (g : xG) (tx tt : va_W) (hT : ∀ c ∈ tt, c ∈ tx) (hI : xI f a) (hG : gOK K g.2 tt) (dp : Int32) (bdp : kb 0 dp 8) (N i n s0 : Nat) (ob : Bool) (T pl : Nat → Int32) (hp0 : xQ f a N ob T pl) (hp1 : (f 1604).toInt = (i : Int)) (hp2 : i ≤ N) (hp3 : (f 1605).toInt = (n : Int) ∧ n ≤ 50) (hp4 : (f 1637).toInt = (s0 : Int) ∧ s0 ≤ i) (hp5 : dp.toInt + (d : Int) = 8), kIG l yX4_readSum (Cond.code yX4_readSum cX4_readSum 6 (some .boolean) :: kG) (rmD (2 * d + 8) 0 0) D K [.ref (r 50), .int dp] (xX K r f a g tx) (fun v (u : xS) => kb 0 v 1 ∧ xI u.1 u.2.1 ∧ gOK K u.2.2.2 tt ∧ xEk ([1604, 1605, 1637], [55], []) f a g u.1 u.2.1 u.2.2 ∧ (∃ i2 n2 : Nat, (u.1 1604).toInt = (i2 : Int) ∧ i ≤ i2 ∧ i2 ≤ N ∧ ((v = 1 ∧ ((u.1 1605).toInt = (n2 : Int) ∧ n2 ≤ 50) ∧ i < i2 ∧ pG ob T d 0 i n (true, i2, n2) ∧ cdP ob T d 0 i i2 s0 (a 55) (u.2.1 55) (u.1 1637) (2 * d + 3)) ∨ (v = 0 ∧ pG ob T d 0 i n (false, i2, 0))))) (fun u => xX K r u.1 u.2.1 u.2.2 tx) 0 0
set_option maxHeartbeats 4000000 in
def eXOp (d : Nat) : Prop := ∀ (l : Launch) {D : va_G} {K : Nat → ClassId} (r : Nat → Nat) (f : Nat → Int32) (a : Nat → Nat → Int32) (g : xG) (tx tt : va_W) (hT : ∀ c ∈ tt, c ∈ tx) (hI : xI f a) (hG : gOK K g.2 tt) (dp : Int32) (bdp : kb 0 dp 8) (N i n s0 : Nat) (ob : Bool) (T pl : Nat → Int32) (hp0 : xQ f a N ob T pl) (hp1 : (f 1604).toInt = (i : Int)) (hp2 : i ≤ N) (hp3 : (f 1605).toInt = (n : Int) ∧ n ≤ 50) (hp4 : (f 1637).toInt = (s0 : Int) ∧ s0 ≤ i) (hp5 : dp.toInt + (d : Int) = 8), kIG l yX4_readOperand (Cond.code yX4_readOperand cX4_readOperand 4 (some .boolean) :: kG) (rmD (2 * d + 7) 0 0) D K [.ref (r 50), .int dp] (xX K r f a g tx) (fun v (u : xS) => kb 0 v 1 ∧ xI u.1 u.2.1 ∧ gOK K u.2.2.2 tt ∧ xEk ([1604, 1605, 1637], [55], []) f a g u.1 u.2.1 u.2.2 ∧ (∃ i2 n2 : Nat, (u.1 1604).toInt = (i2 : Int) ∧ i ≤ i2 ∧ i2 ≤ N ∧ ((v = 1 ∧ ((u.1 1605).toInt = (n2 : Int) ∧ n2 ≤ 50) ∧ i < i2 ∧ pG ob T d 2 i n (true, i2, n2) ∧ cdP ob T d 2 i i2 s0 (a 55) (u.2.1 55) (u.1 1637) (2 * d + 1)) ∨ (v = 0 ∧ pG ob T d 2 i n (false, i2, 0))))) (fun u => xX K r u.1 u.2.1 u.2.2 tx) 0 0
set_option maxHeartbeats 4000000 in
def eXTest (d : Nat) : Prop := ∀ (l : Launch) {D : va_G} {K : Nat → ClassId} (r : Nat → Nat) (f : Nat → Int32) (a : Nat → Nat → Int32) (g : xG) (tx tt : va_W) (hT : ∀ c ∈ tt, c ∈ tx) (hI : xI f a) (hG : gOK K g.2 tt) (dp : Int32) (bdp : kb 0 dp 8) (N i n s0 : Nat) (ob : Bool) (T pl : Nat → Int32) (hp0 : xQ f a N ob T pl) (hp1 : (f 1604).toInt = (i : Int)) (hp2 : i ≤ N) (hp3 : (f 1605).toInt = (n : Int) ∧ n ≤ 50) (hp4 : (f 1637).toInt = (s0 : Int) ∧ s0 ≤ i) (hp5 : dp.toInt + (d : Int) = 8), kIG l yX4_readTest (Cond.code yX4_readTest cX4_readTest 6 (some .boolean) :: kG) (rmD (2 * d + 10) 0 0) D K [.ref (r 50), .int dp] (xX K r f a g tx) (fun v (u : xS) => kb 0 v 1 ∧ xI u.1 u.2.1 ∧ gOK K u.2.2.2 tt ∧ xEk ([1604, 1605, 1637], [55], []) f a g u.1 u.2.1 u.2.2 ∧ (∃ i2 n2 : Nat, (u.1 1604).toInt = (i2 : Int) ∧ i ≤ i2 ∧ i2 ≤ N ∧ ((v = 1 ∧ ((u.1 1605).toInt = (n2 : Int) ∧ n2 ≤ 50) ∧ i < i2 ∧ pG ob T d 3 i n (true, i2, n2) ∧ cdP ob T d 3 i i2 s0 (a 55) (u.2.1 55) (u.1 1637) (2 * d + 4)) ∨ (v = 0 ∧ pG ob T d 3 i n (false, i2, 0))))) (fun u => xX K r u.1 u.2.1 u.2.2 tx) 0 0
set_option maxHeartbeats 4000000 in
def eXPlain (d : Nat) : Prop := ∀ (l : Launch) {D : va_G} {K : Nat → ClassId} (r : Nat → Nat) (f : Nat → Int32) (a : Nat → Nat → Int32) (g : xG) (tx tt : va_W) (hT : ∀ c ∈ tt, c ∈ tx) (hI : xI f a) (hG : gOK K g.2 tt) (dp : Int32) (bdp : kb 0 dp 8) (N i n s0 : Nat) (ob : Bool) (T pl : Nat → Int32) (hp0 : xQ f a N ob T pl) (hp1 : (f 1604).toInt = (i : Int)) (hp2 : i ≤ N) (hp3 : (f 1605).toInt = (n : Int) ∧ n ≤ 50) (hp4 : (f 1637).toInt = (s0 : Int) ∧ s0 ≤ i) (hp5 : dp.toInt + (d : Int) = 8), kIG l yX4_readPlain (Cond.code yX4_readPlain cX4_readPlain 4 (some .boolean) :: kG) (rmD (2 * d + 9) 0 0) D K [.ref (r 50), .int dp] (xX K r f a g tx) (fun v (u : xS) => kb 0 v 1 ∧ xI u.1 u.2.1 ∧ gOK K u.2.2.2 tt ∧ xEk ([1604, 1605, 1637], [55], []) f a g u.1 u.2.1 u.2.2 ∧ (∃ i2 n2 : Nat, (u.1 1604).toInt = (i2 : Int) ∧ i ≤ i2 ∧ i2 ≤ N ∧ ((v = 1 ∧ ((u.1 1605).toInt = (n2 : Int) ∧ n2 ≤ 50) ∧ i < i2 ∧ pG ob T d 5 i n (true, i2, n2) ∧ cdP ob T d 5 i i2 s0 (a 55) (u.2.1 55) (u.1 1637) (2 * d + 4)) ∨ (v = 0 ∧ pG ob T d 5 i n (false, i2, 0))))) (fun u => xX K r u.1 u.2.1 u.2.2 tx) 0 0
set_option maxHeartbeats 4000000 in
set_option maxRecDepth 100000 in
theorem y_readOperand (d : Nat) (ih : ∀ ee, d = ee + 1 → eXSum ee) (l : Launch) {D : va_G} {K : Nat → ClassId} (r : Nat → Nat) (f : Nat → Int32) (a : Nat → Nat → Int32) (g : xG) (tx tt : va_W) (hT : ∀ c ∈ tt, c ∈ tx) (hI : xI f a) (hG : gOK K g.2 tt) (dp : Int32) (bdp : kb 0 dp 8) (N i n s0 : Nat) (ob : Bool) (T pl : Nat → Int32) (hp0 : xQ f a N ob T pl) (hp1 : (f 1604).toInt = (i : Int)) (hp2 : i ≤ N) (hp3 : (f 1605).toInt = (n : Int) ∧ n ≤ 50) (hp4 : (f 1637).toInt = (s0 : Int) ∧ s0 ≤ i) (hp5 : dp.toInt + (d : Int) = 8) : kIG l yX4_readOperand (Cond.code yX4_readOperand cX4_readOperand 4 (some .boolean) :: kG) (rmD (2 * d + 7) 0 0) D K [.ref (r 50), .int dp] (xX K r f a g tx) (fun v (u : xS) => kb 0 v 1 ∧ xI u.1 u.2.1 ∧ gOK K u.2.2.2 tt ∧ xEk ([1604, 1605, 1637], [55], []) f a g u.1 u.2.1 u.2.2 ∧ (∃ i2 n2 : Nat, (u.1 1604).toInt = (i2 : Int) ∧ i ≤ i2 ∧ i2 ≤ N ∧ ((v = 1 ∧ ((u.1 1605).toInt = (n2 : Int) ∧ n2 ≤ 50) ∧ i < i2 ∧ pG ob T d 2 i n (true, i2, n2) ∧ cdP ob T d 2 i i2 s0 (a 55) (u.2.1 55) (u.1 1637) (2 * d + 1)) ∨ (v = 0 ∧ pG ob T d 2 i n (false, i2, 0))))) (fun u => xX K r u.1 u.2.1 u.2.2 tx) 0 0 := by
  refine kIE.of (cc := cX4_readOperand) (maxL := 4) (ret := (some .boolean)) (by decide) rfl (Nat.le_of_ble_eq_true rfl) ?_
  intro p e s m below meth c A hx hb hr hml hown hts hlocks hnm hK hP hD hS hA hV ls hl
  have hE : xEk ([1604, 1605, 1637], [55], []) f a g f a g := xEk_rf
  have hg : ∀ w ∈ kG, w.before _ s = true := fun w h => hts w (List.mem_cons_of_mem _ h)
  have hown : s.vm.findClass RX4 = some m.cls := hown
  have hl : lv_has ls 4 [(0, .ref (r 50)), (1, .int dp)] := hl
  have hk0 := hp0
  have hN4 := hp0.2.1
  obtain ⟨cz4, ecz4⟩ : ∃ z : Int32, z = f 1604 := ⟨_, rfl⟩
  have hg0 : cz4.toInt = (i : Int) := by rw [ecz4]; exact hp1
  have b1 : kb 0 cz4 400 := kb_pos hp2 hN4 hg0
  obtain ⟨cz5, ecz5⟩ : ∃ z : Int32, z = f 1605 := ⟨_, rfl⟩
  have hn5 : cz5.toInt = (n : Int) := by rw [ecz5]; exact hp3.1
  have hl5 := hp3.2
  have b2 : kb 0 cz5 50 := ⟨by omega, by omega⟩
  obtain ⟨cs, ecs⟩ : ∃ z : Int32, z = f 1637 := ⟨_, rfl⟩
  have hcs : cs.toInt = (s0 : Int) := by rw [ecs]; exact hp4.1
  have hsi := hp4.2
  cases ob
  · refine lv_aload_n hx hb dX4_readOperand_0 rfl (lv_at hl 0 rfl) ?_
    refine kIG.callW (As := []) (rest := []) ⟨hx, hb, hml, hown, hg⟩ (y_inHand l r f a g tx tt hT hI hG   N (i) false T pl hk0 (by rw [ecz4.symm]; exact hg0) hp2) (cwV 0 hg (kgV wt3_238 wt4_0 wp1_12 wt1_7 wt4_1) rfl rfl rfl (by decide +kernel) ⟨by dsimp only [rmD]; omega, by dsimp only [rmD]; omega⟩) hV hK hP hD hS hA (50) 4 rfl rfl rfl hl.1 rfl (Nat.le_of_ble_eq_true rfl) dX4_readOperand_1 ⟨Nat.le_refl _, Nat.le_refl _⟩ (fun v4 u5 H locs hw3 hP hD hS => ?_)
    have hP : va_P D vwCl (xX K r f a g tx) H := hP
    have hD : va_D A (xX K r f a g tx) := hD
    have b6 : kb 0 v4 4000 := kb_eq hw3.2 (hk0.2.2.2.2.2.2 (i))
    refine lv_istore_n (lv' := [(2, .int v4), (0, .ref (r 50)), (1, .int dp)]) hx hb dX4_readOperand_4 rfl hl (by decide) rfl (fun ls hl => ?_)
    refine lv_iload_n hx hb dX4_readOperand_5 rfl (lv_at hl 0 rfl) ?_
    refine lv_sipush (v := 3091) hx hb dX4_readOperand_6 (by decide) ?_
    refine lv_icmp_ne (tgt := 64) hx hb dX4_readOperand_9 (by decide) (fun c7 => ?_) (fun c7 => ?_)
    · refine lv_aload_n hx hb dX4_readOperand_64 rfl (lv_at hl 1 rfl) ?_
      refine va_get (D := D) (ci := 4) (v := .int (f 1605)) (C := RX4) (T := TX4) (N := 7) hx hb hg inC4 hown hK hP 50 rfl rfl 5 (by decide) (hg _ wt2_70) (fun _ h9 => h9) rfl dX4_readOperand_65 ?_
      refine k_top (z := cz5) ecz5.symm ?_
      refine lv_bipush (v := 50) hx hb dX4_readOperand_68 (by decide) ?_
      refine lv_icmp_lt (tgt := 75) hx hb dX4_readOperand_70 (by decide) (fun c8 => ?_) (fun c8 => ?_)
      · have h9 := (kc_lt c8)
        have b10 : kb 0 cz5 49 := kr_lt1 h9 b2 kc_50 (by decide)
        refine lv_aload_n hx hb dX4_readOperand_75 rfl (lv_at hl 1 rfl) ?_
        refine lv_dup hx hb dX4_readOperand_76 rfl ?_
        refine va_get (D := D) (ci := 4) (v := .int (f 1605)) (C := RX4) (T := TX4) (N := 7) hx hb hg inC4 hown hK hP 50 rfl rfl 5 (by decide) (hg _ wt2_70) (fun _ h9 => h9) rfl dX4_readOperand_77 ?_
        refine k_top (z := cz5) ecz5.symm ?_
        refine lv_iconst (v := 1) hx hb dX4_readOperand_80 (by decide) ?_
        refine lv_iadd hx hb dX4_readOperand_81 ?_
        refine lv_topi (fun t11 et11 => ?_)
        have b12 : kb 1 t11 50 := kb_eq et11 (kb_add b10 kc_1 (by decide) (by decide))
        have qt11 : t11.toInt = cz5.toInt + 1 := by rw [et11]; exact kt_addc b10 kc_1 (by decide) (by decide)
        refine va_put (D := D) (ci := 4) (v := .int t11) (ty := .int) (C := RX4) (T := TX4) (N := 7) hx hb hg inC4 tyX4 tyX4_ok nmX4 hown hK hP hD hS 50 rfl rfl 5 (by decide) (hg _ wt2_70) (fun _ h9 => h9) rfl (by decide +kernel) rfl rfl (Nat.le_of_ble_eq_true rfl) dX4_readOperand_82 (fun H locs hP hD hS => ?_)
        have hP : va_P D vwCl (xX K r (upd f 1605 t11) a g tx) H := hP
        have hD : va_D A (xX K r (upd f 1605 t11) a g tx) := hD
        refine k_gen (P := fun z => va_P D vwCl (xX K r z a g tx) H ∧ va_D A (xX K r z a g tx) ∧ (xI z a) ∧ (gOK K g.2 tt) ∧ (xEk ([1604, 1605, 1637], [55], []) f a g z a g) ∧ (xQ z a N false T pl)) (upd f 1605 t11) ⟨hP, hD, (xI_f hI (fI_st hI.1 1605 (kb_any _) (by decide) (by decide))), hG, (xEk_f hE rfl), (xQ_f hk0 (by decide) (by decide))⟩ (fun f_13 ef_13 hq => ?_)
        obtain ⟨hP, hD, hI, hG, hE, hk0⟩ := hq
        have hz14 : t11.toInt = ((n + 1 : Nat) : Int) := by have w1 := qt11; omega
        have hz15 : n + 1 ≤ 50 := by have w1 := (b10).2; omega
        refine lv_iload_n hx hb dX4_readOperand_85 rfl (lv_at hl 0 rfl) ?_
        refine lv_if_lt (tgt := 118) hx hb dX4_readOperand_86 (by decide) (fun c16 => ?_) (fun c16 => ?_)
        · have h17 := (kc_lt c16)
          exact kb_no (kr_lt1 h17 b6 kc_0 (H := (-1)) (by decide)) (by decide)
        · have h18 := (kc_nlt c16)
          refine lv_iload_n hx hb dX4_readOperand_89 rfl (lv_at hl 0 rfl) ?_
          refine lv_sipush (v := 1000) hx hb dX4_readOperand_90 (by decide) ?_
          refine lv_icmp_gt (tgt := 118) hx hb dX4_readOperand_93 (by decide) (fun c19 => ?_) (fun c19 => ?_)
          · have h20 := (kc_lt c19)
            have b21 : kb 1001 v4 4000 := kr_lt2 h20 kc_1000 b6 (by decide)
            refine lv_aload_n hx hb dX4_readOperand_118 rfl (lv_at hl 1 rfl) ?_
            refine va_get (D := D) (ci := 4) (v := .int (f_13 1606)) (C := RX4) (T := TX4) (N := 7) hx hb hg inC4 hown hK hP 50 rfl rfl 6 (by decide) (hg _ wt2_71) (fun _ h9 => h9) rfl dX4_readOperand_119 ?_
            refine k_top (z := 0) ((show f_13 1606 = f 1606 from by rw [← ef_13]; rfl).trans hp0.2.2.1) ?_
            refine lv_if_eq (tgt := 133) hx hb dX4_readOperand_122 (by decide) (fun c22 => ?_) (fun c22 => ?_)
            · refine lv_aload_n hx hb dX4_readOperand_133 rfl (lv_at hl 1 rfl) ?_
              refine lv_iload_n hx hb dX4_readOperand_134 rfl (lv_at hl 0 rfl) ?_
              refine kIG.callW (As := [.int v4]) (rest := []) ⟨hx, hb, hml, hown, hg⟩ (y_takeLawWord l r f_13 a g tx tt hT hI hG v4 (kb_w b21 (by decide) (by decide)) N (i) false T pl hk0 (by rw [((show f_13 1604 = f 1604 from by rw [← ef_13]; rfl).trans ecz4.symm)]; exact hg0) hp2 hw3.2) (cwV 1 hg (kgV wt4_22 wt4_24 wp2_0 wt1_7 wt4_25) rfl rfl rfl (by decide +kernel) ⟨by dsimp only [rmD]; omega, by dsimp only [rmD]; omega⟩) hV hK hP hD hS hA (50) 4 rfl rfl rfl hl.1 rfl (Nat.le_of_ble_eq_true rfl) dX4_readOperand_135 ⟨Nat.le_refl _, Nat.le_refl _⟩ (fun v24 u25 H locs hw23 hP hD hS => ?_)
              obtain ⟨f26, a27, g28⟩ := u25
              have hP : va_P D vwCl (xX K r f26 a27 g28 tx) H := hP
              have hD : va_D A (xX K r f26 a27 g28 tx) := hD
              have hI : xI f26 a27 := hw23.2.1
              have hG : gOK K g28.2 tt := hw23.2.2.1
              have eE29 : xEk ([1604], [], []) f_13 a g f26 a27 g28 := hw23.2.2.2.1
              have hE : xEk ([1604, 1605, 1637], [55], []) f a g f26 a27 g28 := xEk_tr hE (xEk_w (by decide +kernel) eE29)
              have hk0 : xQ f26 a27 N false T pl := xQ_c hk0 (eE29.1 1603 rfl) (eE29.1 1606 rfl) ⟨eE29.2.1 56 rfl, eE29.2.1 57 rfl⟩
              rcases hw23.2.2.2.2 with ⟨hnk30, hbk30, hpk30, hlk30, hwk30⟩ | ⟨hvk30, hbk30, hpk30⟩
              · obtain ⟨gv31, egv31⟩ : ∃ z : Int32, z = f26 1604 := ⟨_, rfl⟩
                have hg32 : gv31.toInt = ((i + 1 : Nat) : Int) := by rw [egv31]; exact hpk30
                have b33 : kb 0 gv31 400 := kb_pos hlk30 hN4 hg32
                have b34 : kb 0 v24 9 := ⟨by have w1 := hwk30; have w2 := hbk30.1; omega, by have w1 := hwk30; have w2 := hbk30.2; omega⟩
                refine lv_istore_n (lv' := [(3, .int v24), (2, .int v4), (0, .ref (r 50)), (1, .int dp)]) hx hb dX4_readOperand_138 rfl hl (by decide) rfl (fun ls hl => ?_)
                refine lv_iload_n hx hb dX4_readOperand_139 rfl (lv_at hl 0 rfl) ?_
                refine lv_iconst (v := (-1)) hx hb dX4_readOperand_140 (by decide) ?_
                refine lv_icmp_ne (tgt := 146) hx hb dX4_readOperand_141 (by decide) (fun c35 => ?_) (fun c35 => ?_)
                · refine lv_aload_n hx hb dX4_readOperand_146 rfl (lv_at hl 2 rfl) ?_
                  refine va_get (D := D) (ci := 4) (v := .ref (r 51)) (C := RX4) (T := TX4) (N := 7) hx hb hg inC4 hown hK hP 50 rfl rfl 0 (by decide) (hg _ wt2_64) (fun _ h9 => h9) rfl dX4_readOperand_147 ?_
                  refine lv_iconst (v := 1) hx hb dX4_readOperand_150 (by decide) ?_
                  refine lv_iload_n hx hb dX4_readOperand_151 rfl (lv_at hl 0 rfl) ?_
                  refine kIG.callW (As := [.int 1, .int v24]) (rest := []) ⟨hx, hb, hml, hown, hg⟩ (y_emit l r f26 a27 g28 tx tt hT hI hG 1 v24 (kb_w kc_1 (by decide) (by decide)) (kb_w b34 (by decide) (by decide)) (s0) (by show (f26 1637).toInt = ((s0 : Nat) : Int); rw [((eE29.1 1637 rfl).trans ((show f_13 1637 = f 1637 from by rw [← ef_13]; rfl).trans ecs.symm))]; exact hcs) (by omega)) (cwV 2 hg (kgV wt4_14 wt4_15 wt4_16 wt1_8 wt4_17) rfl rfl rfl (by decide +kernel) ⟨by dsimp only [rmD]; omega, by dsimp only [rmD]; omega⟩) hV hK hP hD hS hA (51) 10 rfl rfl rfl hl.1 rfl (Nat.le_of_ble_eq_true rfl) dX4_readOperand_152 ⟨Nat.le_refl _, Nat.le_refl _⟩ (fun v37 u38 H locs hw36 hP hD hS => ?_)
                  obtain ⟨f39, a40, g41⟩ := u38
                  have hP : va_P D vwCl (xX K r f39 a40 g41 tx) H := hP
                  have hD : va_D A (xX K r f39 a40 g41 tx) := hD
                  have hI : xI f39 a40 := hw36.2.1
                  have hG : gOK K g41.2 tt := hw36.2.2.1
                  have eE42 : xEk ([1637], [55], []) f26 a27 g28 f39 a40 g41 := hw36.2.2.2.1
                  have hE : xEk ([1604, 1605, 1637], [55], []) f a g f39 a40 g41 := xEk_tr hE (xEk_w (by decide +kernel) eE42)
                  have hk0 : xQ f39 a40 N false T pl := xQ_c hk0 (eE42.1 1603 rfl) (eE42.1 1606 rfl) ⟨eE42.2.1 56 rfl, eE42.2.1 57 rfl⟩
                  obtain ⟨zs43, ezs43⟩ : ∃ z : Int32, z = f39 1637 := ⟨_, rfl⟩
                  have hzzs43 : zs43.toInt = ((s0 + 1 : Nat) : Int) := by rw [ezs43]; exact hw36.2.2.2.2.2.1
                  refine lv_pop hx hb dX4_readOperand_155 rfl ?_
                  refine lv_iconst (v := 1) hx hb dX4_readOperand_156 (by decide) ?_
                  exact kI_ret (v := 1) hx hb hr hlocks (by decide +kernel) hK hS dX4_readOperand_157 (f39, a40, g41) hP hD ⟨(kb_w kc_1 (by decide) (by decide)), hI, hG, hE, ⟨i + 1, n + 1, (by show (f39 1604).toInt = ((i + 1 : Nat) : Int); rw [((eE42.1 1604 rfl).trans egv31.symm)]; exact hg32), (Nat.le_succ_of_le (Nat.le_refl i)), hlk30, Or.inl ⟨rfl, ⟨(by show (f39 1605).toInt = ((n + 1 : Nat) : Int); rw [((eE42.1 1605 rfl).trans ((eE29.1 1605 rfl).trans (show f_13 1605 = t11 from by rw [← ef_13]; rfl)))]; exact hz14), hz15⟩, (by omega), (pi_2l (fun q => c7 (hw3.2.trans q)) (lfx_l (kb_eq hw3.2.symm hbk30)).1 (by have w1 := (b10).2; omega) (lfx_l (kb_eq hw3.2.symm hbk30)).2), (cd_law (by show (f39 1637).toInt = ((s0 + 1 : Nat) : Int); rw [ezs43.symm]; exact hzzs43) (fun p hp => (hw36.2.2.2.2.2.2.2 p hp).trans (congrFun (eE29.2.1 55 rfl) p)) (kb_eq hw3.2.symm hbk30) (by rw [← hw3.2]; exact hwk30) hw36.2.2.2.2.2.2.1 (lfx_l (kb_eq hw3.2.symm hbk30)).1 (lfx_l (kb_eq hw3.2.symm hbk30)).2)⟩⟩⟩
                · exact absurd c35 hnk30
              · refine k_top (z := -1) hvk30 ?_
                obtain ⟨gv44, egv44⟩ : ∃ z : Int32, z = f26 1604 := ⟨_, rfl⟩
                have hg45 : gv44.toInt = ((i : Nat) : Int) := by rw [egv44]; exact hpk30
                have b46 : kb 0 gv44 400 := kb_pos hp2 hN4 hg45
                refine lv_istore_n (lv' := [(3, .int (-1)), (2, .int v4), (0, .ref (r 50)), (1, .int dp)]) hx hb dX4_readOperand_138 rfl hl (by decide) rfl (fun ls hl => ?_)
                refine lv_iload_n hx hb dX4_readOperand_139 rfl (lv_at hl 0 rfl) ?_
                refine lv_iconst (v := (-1)) hx hb dX4_readOperand_140 (by decide) ?_
                refine lv_icmp_ne (tgt := 146) hx hb dX4_readOperand_141 (by decide) (fun c47 => ?_) (fun c47 => ?_)
                · exact kb_nsame c47 kc_m1 kc_m1
                · refine lv_iconst (v := 0) hx hb dX4_readOperand_144 (by decide) ?_
                  exact kI_ret (v := 0) hx hb hr hlocks (by decide +kernel) hK hS dX4_readOperand_145 (f26, a27, g28) hP hD ⟨(kb_w kc_0 (by decide) (by decide)), hI, hG, hE, ⟨i, 0, (by show (f26 1604).toInt = ((i : Nat) : Int); rw [egv44.symm]; exact hg45), (Nat.le_refl i), hp2, Or.inr ⟨rfl, (pi_2x (fun q => c7 (hw3.2.trans q)) (lfx_fl (fun q => (fun q => by have w1 := q.2; have w2 := (b21).1; omega) (kb_eq hw3.2 q)) (fun q => hbk30 (kb_eq hw3.2 q))))⟩⟩⟩
            · exact kb_nsame c22 kc_0 kc_0
          · have h48 := (kc_nlt c19)
            have b49 : kb 0 v4 1000 := kr_le1 h48 b6 kc_1000
            refine lv_aload_n hx hb dX4_readOperand_96 rfl (lv_at hl 1 rfl) ?_
            refine lv_dup hx hb dX4_readOperand_97 rfl ?_
            have hlt50 : i < N := xQ_lt hk0 (fun q => by have w1 := (b49).2; have w2 := congrArg Int32.toInt ((hw3.2).trans q); have w3 := i4000; omega)
            have b51 : kb 0 cz4 399 := kb_pos1 hlt50 hN4 hg0
            refine va_get (D := D) (ci := 4) (v := .int (f_13 1604)) (C := RX4) (T := TX4) (N := 7) hx hb hg inC4 hown hK hP 50 rfl rfl 4 (by decide) (hg _ wt2_69) (fun _ h9 => h9) rfl dX4_readOperand_98 ?_
            refine k_top (z := cz4) ((show f_13 1604 = f 1604 from by rw [← ef_13]; rfl).trans ecz4.symm) ?_
            refine lv_iconst (v := 1) hx hb dX4_readOperand_101 (by decide) ?_
            refine lv_iadd hx hb dX4_readOperand_102 ?_
            refine lv_topi (fun t52 et52 => ?_)
            have b53 : kb 1 t52 400 := kb_eq et52 (kb_add b51 kc_1 (by decide) (by decide))
            have qt52 : t52.toInt = cz4.toInt + 1 := by rw [et52]; exact kt_addc b51 kc_1 (by decide) (by decide)
            have hg54 : t52.toInt = ((i + 1 : Nat) : Int) := by rw [qt52, hg0]; omega
            refine va_put (D := D) (ci := 4) (v := .int t52) (ty := .int) (C := RX4) (T := TX4) (N := 7) hx hb hg inC4 tyX4 tyX4_ok nmX4 hown hK hP hD hS 50 rfl rfl 4 (by decide) (hg _ wt2_69) (fun _ h9 => h9) rfl (by decide +kernel) rfl rfl (Nat.le_of_ble_eq_true rfl) dX4_readOperand_103 (fun H locs hP hD hS => ?_)
            have hP : va_P D vwCl (xX K r (upd f_13 1604 t52) a g tx) H := hP
            have hD : va_D A (xX K r (upd f_13 1604 t52) a g tx) := hD
            refine k_gen (P := fun z => va_P D vwCl (xX K r z a g tx) H ∧ va_D A (xX K r z a g tx) ∧ (xI z a) ∧ (gOK K g.2 tt) ∧ (xEk ([1604, 1605, 1637], [55], []) f a g z a g) ∧ (xQ z a N false T pl)) (upd f_13 1604 t52) ⟨hP, hD, (xI_f hI (fI_st hI.1 1604 (kb_any _) (by decide) (by decide))), hG, (xEk_f hE rfl), (xQ_f hk0 (by decide) (by decide))⟩ (fun f_55 ef_55 hq => ?_)
            obtain ⟨hP, hD, hI, hG, hE, hk0⟩ := hq
            refine lv_aload_n hx hb dX4_readOperand_106 rfl (lv_at hl 1 rfl) ?_
            refine va_get (D := D) (ci := 4) (v := .ref (r 51)) (C := RX4) (T := TX4) (N := 7) hx hb hg inC4 hown hK hP 50 rfl rfl 0 (by decide) (hg _ wt2_64) (fun _ h9 => h9) rfl dX4_readOperand_107 ?_
            refine lv_iconst (v := 0) hx hb dX4_readOperand_110 (by decide) ?_
            refine lv_iload_n hx hb dX4_readOperand_111 rfl (lv_at hl 0 rfl) ?_
            refine kIG.callW (As := [.int 0, .int v4]) (rest := []) ⟨hx, hb, hml, hown, hg⟩ (y_emit l r f_55 a g tx tt hT hI hG 0 v4 (kb_w kc_0 (by decide) (by decide)) (kb_w b49 (by decide) (by decide)) (s0) (by show (f_55 1637).toInt = ((s0 : Nat) : Int); rw [((show f_55 1637 = f_13 1637 from by rw [← ef_55]; rfl).trans ((show f_13 1637 = f 1637 from by rw [← ef_13]; rfl).trans ecs.symm))]; exact hcs) (by omega)) (cwV 2 hg (kgV wt4_14 wt4_15 wt4_16 wt1_8 wt4_17) rfl rfl rfl (by decide +kernel) ⟨by dsimp only [rmD]; omega, by dsimp only [rmD]; omega⟩) hV hK hP hD hS hA (51) 10 rfl rfl rfl hl.1 rfl (Nat.le_of_ble_eq_true rfl) dX4_readOperand_112 ⟨Nat.le_refl _, Nat.le_refl _⟩ (fun v57 u58 H locs hw56 hP hD hS => ?_)
            obtain ⟨f59, a60, g61⟩ := u58
            have hP : va_P D vwCl (xX K r f59 a60 g61 tx) H := hP
            have hD : va_D A (xX K r f59 a60 g61 tx) := hD
            have hI : xI f59 a60 := hw56.2.1
            have hG : gOK K g61.2 tt := hw56.2.2.1
            have eE62 : xEk ([1637], [55], []) f_55 a g f59 a60 g61 := hw56.2.2.2.1
            have hE : xEk ([1604, 1605, 1637], [55], []) f a g f59 a60 g61 := xEk_tr hE (xEk_w (by decide +kernel) eE62)
            have hk0 : xQ f59 a60 N false T pl := xQ_c hk0 (eE62.1 1603 rfl) (eE62.1 1606 rfl) ⟨eE62.2.1 56 rfl, eE62.2.1 57 rfl⟩
            obtain ⟨zs63, ezs63⟩ : ∃ z : Int32, z = f59 1637 := ⟨_, rfl⟩
            have hzzs63 : zs63.toInt = ((s0 + 1 : Nat) : Int) := by rw [ezs63]; exact hw56.2.2.2.2.2.1
            refine lv_pop hx hb dX4_readOperand_115 rfl ?_
            refine lv_iconst (v := 1) hx hb dX4_readOperand_116 (by decide) ?_
            exact kI_ret (v := 1) hx hb hr hlocks (by decide +kernel) hK hS dX4_readOperand_117 (f59, a60, g61) hP hD ⟨(kb_w kc_1 (by decide) (by decide)), hI, hG, hE, ⟨i + 1, n + 1, (by show (f59 1604).toInt = ((i + 1 : Nat) : Int); rw [((eE62.1 1604 rfl).trans (show f_55 1604 = t52 from by rw [← ef_55]; rfl))]; exact hg54), (Nat.le_succ_of_le (Nat.le_refl i)), hlt50, Or.inl ⟨rfl, ⟨(by show (f59 1605).toInt = ((n + 1 : Nat) : Int); rw [((eE62.1 1605 rfl).trans ((show f_55 1605 = f_13 1605 from by rw [← ef_55]; rfl).trans (show f_13 1605 = t11 from by rw [← ef_13]; rfl)))]; exact hz14), hz15⟩, (by omega), (pi_2l (fun q => c7 (hw3.2.trans q)) (lfx_n (ob := false) (kb_eq hw3.2.symm b49)).1 (by have w1 := (b10).2; omega) (lfx_n (ob := false) (kb_eq hw3.2.symm b49)).2), (cd_num (by show (f59 1637).toInt = ((s0 + 1 : Nat) : Int); rw [ezs63.symm]; exact hzzs63) hw56.2.2.2.2.2.2.2 (kb_eq hw3.2.symm b49) (by have w1 := hw56.2.2.2.2.2.2.1; rw [hw3.2] at w1; exact w1) (lfx_n (ob := false) (kb_eq hw3.2.symm b49)).1 (lfx_n (ob := false) (kb_eq hw3.2.symm b49)).2)⟩⟩⟩
      · have h64 := (kc_nlt c8)
        have b65 : kb 50 cz5 50 := kr_le2 h64 kc_50 b2
        refine lv_iconst (v := 0) hx hb dX4_readOperand_73 (by decide) ?_
        exact kI_ret (v := 0) hx hb hr hlocks (by decide +kernel) hK hS dX4_readOperand_74 (f, a, g) hP hD ⟨(kb_w kc_0 (by decide) (by decide)), hI, hG, hE, ⟨i, 0, (by show (f 1604).toInt = ((i : Nat) : Int); rw [ecz4.symm]; exact hg0), (Nat.le_refl i), hp2, Or.inr ⟨rfl, (pi_2e (fun q => c7 (hw3.2.trans q)) (by have w1 := (b65).1; omega))⟩⟩⟩
    · have b66 : kb 3091 v4 3091 := kb_eq c7 kc_3091
      refine lv_iload_n hx hb dX4_readOperand_12 rfl (lv_at hl 2 rfl) ?_
      refine lv_bipush (v := 8) hx hb dX4_readOperand_13 (by decide) ?_
      refine lv_icmp_lt (tgt := 20) hx hb dX4_readOperand_15 (by decide) (fun c67 => ?_) (fun c67 => ?_)
      · have h68 := (kc_lt c67)
        have b69 : kb 0 dp 7 := kr_lt1 h68 bdp kc_8 (by decide)
        refine lv_aload_n hx hb dX4_readOperand_20 rfl (lv_at hl 1 rfl) ?_
        refine lv_dup hx hb dX4_readOperand_21 rfl ?_
        have hlt70 : i < N := xQ_lt hk0 (ne_4000 (hw3.2.symm.trans c7) (by decide +kernel))
        have b71 : kb 0 cz4 399 := kb_pos1 hlt70 hN4 hg0
        refine va_get (D := D) (ci := 4) (v := .int (f 1604)) (C := RX4) (T := TX4) (N := 7) hx hb hg inC4 hown hK hP 50 rfl rfl 4 (by decide) (hg _ wt2_69) (fun _ h9 => h9) rfl dX4_readOperand_22 ?_
        refine k_top (z := cz4) ecz4.symm ?_
        refine lv_iconst (v := 1) hx hb dX4_readOperand_25 (by decide) ?_
        refine lv_iadd hx hb dX4_readOperand_26 ?_
        refine lv_topi (fun t72 et72 => ?_)
        have b73 : kb 1 t72 400 := kb_eq et72 (kb_add b71 kc_1 (by decide) (by decide))
        have qt72 : t72.toInt = cz4.toInt + 1 := by rw [et72]; exact kt_addc b71 kc_1 (by decide) (by decide)
        have hg74 : t72.toInt = ((i + 1 : Nat) : Int) := by rw [qt72, hg0]; omega
        refine va_put (D := D) (ci := 4) (v := .int t72) (ty := .int) (C := RX4) (T := TX4) (N := 7) hx hb hg inC4 tyX4 tyX4_ok nmX4 hown hK hP hD hS 50 rfl rfl 4 (by decide) (hg _ wt2_69) (fun _ h9 => h9) rfl (by decide +kernel) rfl rfl (Nat.le_of_ble_eq_true rfl) dX4_readOperand_27 (fun H locs hP hD hS => ?_)
        have hP : va_P D vwCl (xX K r (upd f 1604 t72) a g tx) H := hP
        have hD : va_D A (xX K r (upd f 1604 t72) a g tx) := hD
        refine k_gen (P := fun z => va_P D vwCl (xX K r z a g tx) H ∧ va_D A (xX K r z a g tx) ∧ (xI z a) ∧ (gOK K g.2 tt) ∧ (xEk ([1604, 1605, 1637], [55], []) f a g z a g) ∧ (xQ z a N false T pl)) (upd f 1604 t72) ⟨hP, hD, (xI_f hI (fI_st hI.1 1604 (kb_any _) (by decide) (by decide))), hG, (xEk_f hE rfl), (xQ_f hk0 (by decide) (by decide))⟩ (fun f_75 ef_75 hq => ?_)
        obtain ⟨hP, hD, hI, hG, hE, hk0⟩ := hq
        obtain ⟨ee, hd⟩ : ∃ ee, d = ee + 1 := ⟨d - 1, by have w1 := hp5; have w2 := (b69).2; omega⟩
        refine lv_aload_n hx hb dX4_readOperand_30 rfl (lv_at hl 1 rfl) ?_
        refine lv_iload_n hx hb dX4_readOperand_31 rfl (lv_at hl 2 rfl) ?_
        refine lv_iconst (v := 1) hx hb dX4_readOperand_32 (by decide) ?_
        refine lv_iadd hx hb dX4_readOperand_33 ?_
        refine lv_topi (fun t76 et76 => ?_)
        have b77 : kb 1 t76 8 := kb_eq et76 (kb_add b69 kc_1 (by decide) (by decide))
        have qt76 : t76.toInt = dp.toInt + 1 := by rw [et76]; exact kt_addc b69 kc_1 (by decide) (by decide)
        refine kIG.callW (As := [.int t76]) (rest := []) ⟨hx, hb, hml, hown, hg⟩ ((ih ee hd) l r f_75 a g tx tt hT hI hG t76 (kb_w b77 (by decide) (by decide)) N (i + 1) (n) (s0) false T pl hk0 (by rw [(show f_75 1604 = t72 from by rw [← ef_75]; rfl)]; exact hg74) hlt70 ⟨(by rw [((show f_75 1605 = f 1605 from by rw [← ef_75]; rfl).trans ecz5.symm)]; exact hn5), hl5⟩ ⟨(by show (f_75 1637).toInt = ((s0 : Nat) : Int); rw [((show f_75 1637 = f 1637 from by rw [← ef_75]; rfl).trans ecs.symm)]; exact hcs), (by omega)⟩ (by have w1 := hp5; have w2 := qt76; omega)) (cwV 1 hg (kgV wt4_6 wt4_8 wp1_13 wt1_7 wt4_9) rfl rfl rfl (by decide +kernel) ⟨by dsimp only [rmD]; omega, by dsimp only [rmD]; omega⟩) hV hK hP hD hS hA (50) 4 rfl rfl rfl hl.1 rfl (Nat.le_of_ble_eq_true rfl) dX4_readOperand_34 ⟨Nat.le_refl _, Nat.le_refl _⟩ (fun v79 u80 H locs hw78 hP hD hS => ?_)
        obtain ⟨f81, a82, g83⟩ := u80
        have hP : va_P D vwCl (xX K r f81 a82 g83 tx) H := hP
        have hD : va_D A (xX K r f81 a82 g83 tx) := hD
        have hI : xI f81 a82 := hw78.2.1
        have hG : gOK K g83.2 tt := hw78.2.2.1
        have eE84 : xEk ([1604, 1605, 1637], [55], []) f_75 a g f81 a82 g83 := hw78.2.2.2.1
        have hE : xEk ([1604, 1605, 1637], [55], []) f a g f81 a82 g83 := xEk_tr hE eE84
        have hk0 : xQ f81 a82 N false T pl := xQ_c hk0 (eE84.1 1603 rfl) (eE84.1 1606 rfl) ⟨eE84.2.1 56 rfl, eE84.2.1 57 rfl⟩
        obtain ⟨ik85, nk85, hgk85, hlek85, hNk85, hck85⟩ := hw78.2.2.2.2
        rcases hck85 with ⟨hvk85, h3k85, hltk85, hGk85, hcdk85⟩ | ⟨hvk85, hGk85⟩
        · refine k_top (z := 1) hvk85 ?_
          obtain ⟨gv86, egv86⟩ : ∃ z : Int32, z = f81 1604 := ⟨_, rfl⟩
          have hg87 : gv86.toInt = ((ik85 : Nat) : Int) := by rw [egv86]; exact hgk85
          have b88 : kb 0 gv86 400 := kb_pos hNk85 hN4 hg87
          obtain ⟨z89, ez89⟩ : ∃ z : Int32, z = f81 1605 := ⟨_, rfl⟩
          have hzz89 : z89.toInt = ((nk85 : Nat) : Int) := by rw [ez89]; exact h3k85.1
          have b90 : kb 0 z89 50 := ⟨by omega, by have w1 := h3k85.2; omega⟩
          obtain ⟨sk85, wk85, hzk85, hlk85, hqk85, hek85, hrk85⟩ := hcdk85
          obtain ⟨zs91, ezs91⟩ : ∃ z : Int32, z = f81 1637 := ⟨_, rfl⟩
          have hzzs91 : zs91.toInt = ((sk85 : Nat) : Int) := by rw [ezs91]; exact hzk85
          refine lv_if_eq (tgt := 50) hx hb dX4_readOperand_37 (by decide) (fun c92 => ?_) (fun c92 => ?_)
          · exact kb_dj c92 kc_1 kc_0 (by decide)
          · refine lv_aload_n hx hb dX4_readOperand_40 rfl (lv_at hl 1 rfl) ?_
            refine kIG.callW (As := []) (rest := []) ⟨hx, hb, hml, hown, hg⟩ (y_inHand l r f81 a82 g83 tx tt hT hI hG   N (ik85) false T pl hk0 (by rw [egv86.symm]; exact hg87) hNk85) (cwV 0 hg (kgV wt3_238 wt4_0 wp1_12 wt1_7 wt4_1) rfl rfl rfl (by decide +kernel) ⟨by dsimp only [rmD]; omega, by dsimp only [rmD]; omega⟩) hV hK hP hD hS hA (50) 4 rfl rfl rfl hl.1 rfl (Nat.le_of_ble_eq_true rfl) dX4_readOperand_41 ⟨Nat.le_refl _, Nat.le_refl _⟩ (fun v94 u95 H locs hw93 hP hD hS => ?_)
            have hP : va_P D vwCl (xX K r f81 a82 g83 tx) H := hP
            have hD : va_D A (xX K r f81 a82 g83 tx) := hD
            have b96 : kb 0 v94 4000 := kb_eq hw93.2 (hk0.2.2.2.2.2.2 (ik85))
            refine lv_sipush (v := 3093) hx hb dX4_readOperand_44 (by decide) ?_
            refine lv_icmp_eq (tgt := 52) hx hb dX4_readOperand_47 (by decide) (fun c97 => ?_) (fun c97 => ?_)
            · have b98 : kb 3093 v94 3093 := kb_eq c97 kc_3093
              refine lv_aload_n hx hb dX4_readOperand_52 rfl (lv_at hl 1 rfl) ?_
              refine lv_dup hx hb dX4_readOperand_53 rfl ?_
              have hlt99 : ik85 < N := xQ_lt hk0 (ne_4000 (hw93.2.symm.trans c97) (by decide +kernel))
              have b100 : kb 0 gv86 399 := kb_pos1 hlt99 hN4 hg87
              refine va_get (D := D) (ci := 4) (v := .int (f81 1604)) (C := RX4) (T := TX4) (N := 7) hx hb hg inC4 hown hK hP 50 rfl rfl 4 (by decide) (hg _ wt2_69) (fun _ h9 => h9) rfl dX4_readOperand_54 ?_
              refine k_top (z := gv86) egv86.symm ?_
              refine lv_iconst (v := 1) hx hb dX4_readOperand_57 (by decide) ?_
              refine lv_iadd hx hb dX4_readOperand_58 ?_
              refine lv_topi (fun t101 et101 => ?_)
              have b102 : kb 1 t101 400 := kb_eq et101 (kb_add b100 kc_1 (by decide) (by decide))
              have qt101 : t101.toInt = gv86.toInt + 1 := by rw [et101]; exact kt_addc b100 kc_1 (by decide) (by decide)
              have hg103 : t101.toInt = ((ik85 + 1 : Nat) : Int) := by rw [qt101, hg87]; omega
              refine va_put (D := D) (ci := 4) (v := .int t101) (ty := .int) (C := RX4) (T := TX4) (N := 7) hx hb hg inC4 tyX4 tyX4_ok nmX4 hown hK hP hD hS 50 rfl rfl 4 (by decide) (hg _ wt2_69) (fun _ h9 => h9) rfl (by decide +kernel) rfl rfl (Nat.le_of_ble_eq_true rfl) dX4_readOperand_59 (fun H locs hP hD hS => ?_)
              have hP : va_P D vwCl (xX K r (upd f81 1604 t101) a82 g83 tx) H := hP
              have hD : va_D A (xX K r (upd f81 1604 t101) a82 g83 tx) := hD
              refine k_gen (P := fun z => va_P D vwCl (xX K r z a82 g83 tx) H ∧ va_D A (xX K r z a82 g83 tx) ∧ (xI z a82) ∧ (gOK K g83.2 tt) ∧ (xEk ([1604, 1605, 1637], [55], []) f a g z a82 g83) ∧ (xQ z a82 N false T pl)) (upd f81 1604 t101) ⟨hP, hD, (xI_f hI (fI_st hI.1 1604 (kb_any _) (by decide) (by decide))), hG, (xEk_f hE rfl), (xQ_f hk0 (by decide) (by decide))⟩ (fun f_104 ef_104 hq => ?_)
              obtain ⟨hP, hD, hI, hG, hE, hk0⟩ := hq
              refine lv_iconst (v := 1) hx hb dX4_readOperand_62 (by decide) ?_
              exact kI_ret (v := 1) hx hb hr hlocks (by decide +kernel) hK hS dX4_readOperand_63 (f_104, a82, g83) hP hD ⟨(kb_w kc_1 (by decide) (by decide)), hI, hG, hE, ⟨ik85 + 1, nk85, (by show (f_104 1604).toInt = ((ik85 + 1 : Nat) : Int); rw [(show f_104 1604 = t101 from by rw [← ef_104]; rfl)]; exact hg103), (Nat.le_succ_of_le (Nat.le_trans (Nat.le_succ_of_le (Nat.le_refl i)) hlek85)), hlt99, Or.inl ⟨rfl, ⟨(by show (f_104 1605).toInt = ((nk85 : Nat) : Int); rw [((show f_104 1605 = f81 1605 from by rw [← ef_104]; rfl).trans ez89.symm)]; exact hzz89), h3k85.2⟩, (by omega), (pi_2a (hw3.2.symm.trans c7) hd hGk85 (hw93.2.symm.trans c97)), (cd_brk (hw3.2.symm.trans c7) hd (hw93.2.symm.trans c97) ⟨sk85, wk85, (by show (f_104 1637).toInt = ((sk85 : Nat) : Int); rw [((show f_104 1637 = f81 1637 from by rw [← ef_104]; rfl).trans ezs91.symm)]; exact hzzs91), hlk85, hqk85, hek85, hrk85⟩)⟩⟩⟩
            · refine lv_iconst (v := 0) hx hb dX4_readOperand_50 (by decide) ?_
              exact kI_ret (v := 0) hx hb hr hlocks (by decide +kernel) hK hS dX4_readOperand_51 (f81, a82, g83) hP hD ⟨(kb_w kc_0 (by decide) (by decide)), hI, hG, hE, ⟨ik85, 0, (by show (f81 1604).toInt = ((ik85 : Nat) : Int); rw [egv86.symm]; exact hg87), (Nat.le_trans (Nat.le_succ_of_le (Nat.le_refl i)) hlek85), hNk85, Or.inr ⟨rfl, (pi_2b (hw3.2.symm.trans c7) hd hGk85 (fun q => c97 (hw93.2.trans q)))⟩⟩⟩
        · refine k_top (z := 0) hvk85 ?_
          obtain ⟨gv105, egv105⟩ : ∃ z : Int32, z = f81 1604 := ⟨_, rfl⟩
          have hg106 : gv105.toInt = ((ik85 : Nat) : Int) := by rw [egv105]; exact hgk85
          have b107 : kb 0 gv105 400 := kb_pos hNk85 hN4 hg106
          refine lv_if_eq (tgt := 50) hx hb dX4_readOperand_37 (by decide) (fun c108 => ?_) (fun c108 => ?_)
          · refine lv_iconst (v := 0) hx hb dX4_readOperand_50 (by decide) ?_
            exact kI_ret (v := 0) hx hb hr hlocks (by decide +kernel) hK hS dX4_readOperand_51 (f81, a82, g83) hP hD ⟨(kb_w kc_0 (by decide) (by decide)), hI, hG, hE, ⟨ik85, 0, (by show (f81 1604).toInt = ((ik85 : Nat) : Int); rw [egv105.symm]; exact hg106), (Nat.le_trans (Nat.le_succ_of_le (Nat.le_refl i)) hlek85), hNk85, Or.inr ⟨rfl, (pi_2f (hw3.2.symm.trans c7) hd hGk85)⟩⟩⟩
          · exact kb_nsame c108 kc_0 kc_0
      · have h109 := (kc_nlt c67)
        have b110 : kb 8 dp 8 := kr_le2 h109 kc_8 bdp
        refine lv_iconst (v := 0) hx hb dX4_readOperand_18 (by decide) ?_
        exact kI_ret (v := 0) hx hb hr hlocks (by decide +kernel) hK hS dX4_readOperand_19 (f, a, g) hP hD ⟨(kb_w kc_0 (by decide) (by decide)), hI, hG, hE, ⟨i, 0, (by show (f 1604).toInt = ((i : Nat) : Int); rw [ecz4.symm]; exact hg0), (Nat.le_refl i), hp2, Or.inr ⟨rfl, (pi_2z (hw3.2.symm.trans c7) (by have w1 := hp5; have w2 := (b110).1; omega))⟩⟩⟩
  · refine lv_aload_n hx hb dX4_readOperand_0 rfl (lv_at hl 0 rfl) ?_
    refine kIG.callW (As := []) (rest := []) ⟨hx, hb, hml, hown, hg⟩ (y_inHand l r f a g tx tt hT hI hG   N (i) true T pl hk0 (by rw [ecz4.symm]; exact hg0) hp2) (cwV 0 hg (kgV wt3_238 wt4_0 wp1_12 wt1_7 wt4_1) rfl rfl rfl (by decide +kernel) ⟨by dsimp only [rmD]; omega, by dsimp only [rmD]; omega⟩) hV hK hP hD hS hA (50) 4 rfl rfl rfl hl.1 rfl (Nat.le_of_ble_eq_true rfl) dX4_readOperand_1 ⟨Nat.le_refl _, Nat.le_refl _⟩ (fun v112 u113 H locs hw111 hP hD hS => ?_)
    have hP : va_P D vwCl (xX K r f a g tx) H := hP
    have hD : va_D A (xX K r f a g tx) := hD
    have b114 : kb 0 v112 4000 := kb_eq hw111.2 (hk0.2.2.2.2.2.2 (i))
    refine lv_istore_n (lv' := [(2, .int v112), (0, .ref (r 50)), (1, .int dp)]) hx hb dX4_readOperand_4 rfl hl (by decide) rfl (fun ls hl => ?_)
    refine lv_iload_n hx hb dX4_readOperand_5 rfl (lv_at hl 0 rfl) ?_
    refine lv_sipush (v := 3091) hx hb dX4_readOperand_6 (by decide) ?_
    refine lv_icmp_ne (tgt := 64) hx hb dX4_readOperand_9 (by decide) (fun c115 => ?_) (fun c115 => ?_)
    · refine lv_aload_n hx hb dX4_readOperand_64 rfl (lv_at hl 1 rfl) ?_
      refine va_get (D := D) (ci := 4) (v := .int (f 1605)) (C := RX4) (T := TX4) (N := 7) hx hb hg inC4 hown hK hP 50 rfl rfl 5 (by decide) (hg _ wt2_70) (fun _ h9 => h9) rfl dX4_readOperand_65 ?_
      refine k_top (z := cz5) ecz5.symm ?_
      refine lv_bipush (v := 50) hx hb dX4_readOperand_68 (by decide) ?_
      refine lv_icmp_lt (tgt := 75) hx hb dX4_readOperand_70 (by decide) (fun c116 => ?_) (fun c116 => ?_)
      · have h117 := (kc_lt c116)
        have b118 : kb 0 cz5 49 := kr_lt1 h117 b2 kc_50 (by decide)
        refine lv_aload_n hx hb dX4_readOperand_75 rfl (lv_at hl 1 rfl) ?_
        refine lv_dup hx hb dX4_readOperand_76 rfl ?_
        refine va_get (D := D) (ci := 4) (v := .int (f 1605)) (C := RX4) (T := TX4) (N := 7) hx hb hg inC4 hown hK hP 50 rfl rfl 5 (by decide) (hg _ wt2_70) (fun _ h9 => h9) rfl dX4_readOperand_77 ?_
        refine k_top (z := cz5) ecz5.symm ?_
        refine lv_iconst (v := 1) hx hb dX4_readOperand_80 (by decide) ?_
        refine lv_iadd hx hb dX4_readOperand_81 ?_
        refine lv_topi (fun t119 et119 => ?_)
        have b120 : kb 1 t119 50 := kb_eq et119 (kb_add b118 kc_1 (by decide) (by decide))
        have qt119 : t119.toInt = cz5.toInt + 1 := by rw [et119]; exact kt_addc b118 kc_1 (by decide) (by decide)
        refine va_put (D := D) (ci := 4) (v := .int t119) (ty := .int) (C := RX4) (T := TX4) (N := 7) hx hb hg inC4 tyX4 tyX4_ok nmX4 hown hK hP hD hS 50 rfl rfl 5 (by decide) (hg _ wt2_70) (fun _ h9 => h9) rfl (by decide +kernel) rfl rfl (Nat.le_of_ble_eq_true rfl) dX4_readOperand_82 (fun H locs hP hD hS => ?_)
        have hP : va_P D vwCl (xX K r (upd f 1605 t119) a g tx) H := hP
        have hD : va_D A (xX K r (upd f 1605 t119) a g tx) := hD
        refine k_gen (P := fun z => va_P D vwCl (xX K r z a g tx) H ∧ va_D A (xX K r z a g tx) ∧ (xI z a) ∧ (gOK K g.2 tt) ∧ (xEk ([1604, 1605, 1637], [55], []) f a g z a g) ∧ (xQ z a N true T pl)) (upd f 1605 t119) ⟨hP, hD, (xI_f hI (fI_st hI.1 1605 (kb_any _) (by decide) (by decide))), hG, (xEk_f hE rfl), (xQ_f hk0 (by decide) (by decide))⟩ (fun f_121 ef_121 hq => ?_)
        obtain ⟨hP, hD, hI, hG, hE, hk0⟩ := hq
        have hz122 : t119.toInt = ((n + 1 : Nat) : Int) := by have w1 := qt119; omega
        have hz123 : n + 1 ≤ 50 := by have w1 := (b118).2; omega
        refine lv_iload_n hx hb dX4_readOperand_85 rfl (lv_at hl 0 rfl) ?_
        refine lv_if_lt (tgt := 118) hx hb dX4_readOperand_86 (by decide) (fun c124 => ?_) (fun c124 => ?_)
        · have h125 := (kc_lt c124)
          exact kb_no (kr_lt1 h125 b114 kc_0 (H := (-1)) (by decide)) (by decide)
        · have h126 := (kc_nlt c124)
          refine lv_iload_n hx hb dX4_readOperand_89 rfl (lv_at hl 0 rfl) ?_
          refine lv_sipush (v := 1000) hx hb dX4_readOperand_90 (by decide) ?_
          refine lv_icmp_gt (tgt := 118) hx hb dX4_readOperand_93 (by decide) (fun c127 => ?_) (fun c127 => ?_)
          · have h128 := (kc_lt c127)
            have b129 : kb 1001 v112 4000 := kr_lt2 h128 kc_1000 b114 (by decide)
            refine lv_aload_n hx hb dX4_readOperand_118 rfl (lv_at hl 1 rfl) ?_
            refine va_get (D := D) (ci := 4) (v := .int (f_121 1606)) (C := RX4) (T := TX4) (N := 7) hx hb hg inC4 hown hK hP 50 rfl rfl 6 (by decide) (hg _ wt2_71) (fun _ h9 => h9) rfl dX4_readOperand_119 ?_
            refine k_top (z := 1) ((show f_121 1606 = f 1606 from by rw [← ef_121]; rfl).trans hp0.2.2.1) ?_
            refine lv_if_eq (tgt := 133) hx hb dX4_readOperand_122 (by decide) (fun c130 => ?_) (fun c130 => ?_)
            · exact kb_dj c130 kc_1 kc_0 (by decide)
            · refine lv_aload_n hx hb dX4_readOperand_125 rfl (lv_at hl 1 rfl) ?_
              refine lv_iload_n hx hb dX4_readOperand_126 rfl (lv_at hl 0 rfl) ?_
              refine kIG.callW (As := [.int v112]) (rest := []) ⟨hx, hb, hml, hown, hg⟩ (y_takeOrderWord l r f_121 a g tx tt hT hI hG v112 (kb_w b129 (by decide) (by decide)) N (i) true T pl hk0 (by rw [((show f_121 1604 = f 1604 from by rw [← ef_121]; rfl).trans ecz4.symm)]; exact hg0) hp2 hw111.2 (fun q => by have w1 := q.2; have w2 := (b129).1; omega)) (cwV 1 hg (kgV wt4_18 wt4_20 wp1_15 wt1_7 wt4_21) rfl rfl rfl (by decide +kernel) ⟨by dsimp only [rmD]; omega, by dsimp only [rmD]; omega⟩) hV hK hP hD hS hA (50) 4 rfl rfl rfl hl.1 rfl (Nat.le_of_ble_eq_true rfl) dX4_readOperand_127 ⟨Nat.le_refl _, Nat.le_refl _⟩ (fun v132 u133 H locs hw131 hP hD hS => ?_)
              obtain ⟨f134, a135, g136⟩ := u133
              have hP : va_P D vwCl (xX K r f134 a135 g136 tx) H := hP
              have hD : va_D A (xX K r f134 a135 g136 tx) := hD
              have hI : xI f134 a135 := hw131.2.1
              have hG : gOK K g136.2 tt := hw131.2.2.1
              have eE137 : xEk ([1604], [], []) f_121 a g f134 a135 g136 := hw131.2.2.2.1
              have hE : xEk ([1604, 1605, 1637], [55], []) f a g f134 a135 g136 := xEk_tr hE (xEk_w (by decide +kernel) eE137)
              have hk0 : xQ f134 a135 N true T pl := xQ_c hk0 (eE137.1 1603 rfl) (eE137.1 1606 rfl) ⟨eE137.2.1 56 rfl, eE137.2.1 57 rfl⟩
              rcases hw131.2.2.2.2 with ⟨hnk138, hLk138, hMk138, hpk138, hlk138, hwk138, hyk138⟩ | ⟨hnk138, hLk138, hMk138, hPk138, hpk138, hlk138, hwk138, hyk138⟩ | ⟨hvk138, hLk138, hMk138, hPk138, hpk138, hlk138⟩ | ⟨hvk138, hLk138, hpk138⟩
              · obtain ⟨gv139, egv139⟩ : ∃ z : Int32, z = f134 1604 := ⟨_, rfl⟩
                have hg140 : gv139.toInt = ((i + 1 : Nat) : Int) := by rw [egv139]; exact hpk138
                have b141 : kb 0 gv139 400 := kb_pos hlk138 hN4 hg140
                refine lv_goto (tgt := 138) hx hb dX4_readOperand_130 (by decide) ?_
                refine lv_istore_n (lv' := [(3, .int v132), (2, .int v112), (0, .ref (r 50)), (1, .int dp)]) hx hb dX4_readOperand_138 rfl hl (by decide) rfl (fun ls hl => ?_)
                refine lv_iload_n hx hb dX4_readOperand_139 rfl (lv_at hl 0 rfl) ?_
                refine lv_iconst (v := (-1)) hx hb dX4_readOperand_140 (by decide) ?_
                refine lv_icmp_ne (tgt := 146) hx hb dX4_readOperand_141 (by decide) (fun c142 => ?_) (fun c142 => ?_)
                · refine lv_aload_n hx hb dX4_readOperand_146 rfl (lv_at hl 2 rfl) ?_
                  refine va_get (D := D) (ci := 4) (v := .ref (r 51)) (C := RX4) (T := TX4) (N := 7) hx hb hg inC4 hown hK hP 50 rfl rfl 0 (by decide) (hg _ wt2_64) (fun _ h9 => h9) rfl dX4_readOperand_147 ?_
                  refine lv_iconst (v := 1) hx hb dX4_readOperand_150 (by decide) ?_
                  refine lv_iload_n hx hb dX4_readOperand_151 rfl (lv_at hl 0 rfl) ?_
                  refine kIG.callW (As := [.int 1, .int v132]) (rest := []) ⟨hx, hb, hml, hown, hg⟩ (y_emit l r f134 a135 g136 tx tt hT hI hG 1 v132 (kb_w kc_1 (by decide) (by decide)) (kb_w hyk138 (by decide) (by decide)) (s0) (by show (f134 1637).toInt = ((s0 : Nat) : Int); rw [((eE137.1 1637 rfl).trans ((show f_121 1637 = f 1637 from by rw [← ef_121]; rfl).trans ecs.symm))]; exact hcs) (by omega)) (cwV 2 hg (kgV wt4_14 wt4_15 wt4_16 wt1_8 wt4_17) rfl rfl rfl (by decide +kernel) ⟨by dsimp only [rmD]; omega, by dsimp only [rmD]; omega⟩) hV hK hP hD hS hA (51) 10 rfl rfl rfl hl.1 rfl (Nat.le_of_ble_eq_true rfl) dX4_readOperand_152 ⟨Nat.le_refl _, Nat.le_refl _⟩ (fun v144 u145 H locs hw143 hP hD hS => ?_)
                  obtain ⟨f146, a147, g148⟩ := u145
                  have hP : va_P D vwCl (xX K r f146 a147 g148 tx) H := hP
                  have hD : va_D A (xX K r f146 a147 g148 tx) := hD
                  have hI : xI f146 a147 := hw143.2.1
                  have hG : gOK K g148.2 tt := hw143.2.2.1
                  have eE149 : xEk ([1637], [55], []) f134 a135 g136 f146 a147 g148 := hw143.2.2.2.1
                  have hE : xEk ([1604, 1605, 1637], [55], []) f a g f146 a147 g148 := xEk_tr hE (xEk_w (by decide +kernel) eE149)
                  have hk0 : xQ f146 a147 N true T pl := xQ_c hk0 (eE149.1 1603 rfl) (eE149.1 1606 rfl) ⟨eE149.2.1 56 rfl, eE149.2.1 57 rfl⟩
                  obtain ⟨zs150, ezs150⟩ : ∃ z : Int32, z = f146 1637 := ⟨_, rfl⟩
                  have hzzs150 : zs150.toInt = ((s0 + 1 : Nat) : Int) := by rw [ezs150]; exact hw143.2.2.2.2.2.1
                  refine lv_pop hx hb dX4_readOperand_155 rfl ?_
                  refine lv_iconst (v := 1) hx hb dX4_readOperand_156 (by decide) ?_
                  exact kI_ret (v := 1) hx hb hr hlocks (by decide +kernel) hK hS dX4_readOperand_157 (f146, a147, g148) hP hD ⟨(kb_w kc_1 (by decide) (by decide)), hI, hG, hE, ⟨i + 1, n + 1, (by show (f146 1604).toInt = ((i + 1 : Nat) : Int); rw [((eE149.1 1604 rfl).trans egv139.symm)]; exact hg140), (Nat.le_succ_of_le (Nat.le_refl i)), hlk138, Or.inl ⟨rfl, ⟨(by show (f146 1605).toInt = ((n + 1 : Nat) : Int); rw [((eE149.1 1605 rfl).trans ((eE137.1 1605 rfl).trans (show f_121 1605 = t119 from by rw [← ef_121]; rfl)))]; exact hz122), hz123⟩, (by omega), (pi_2l (fun q => c115 (hw111.2.trans q)) hLk138 (by have w1 := (b118).2; omega) hMk138), (cd_ord (by show (f146 1637).toInt = ((s0 + 1 : Nat) : Int); rw [ezs150.symm]; exact hzzs150) (fun p hp => (hw143.2.2.2.2.2.2.2 p hp).trans (congrFun (eE137.2.1 55 rfl) p)) (fun q => (fun q => by have w1 := q.2; have w2 := (b129).1; omega) (kb_eq hw111.2 q)) hwk138 hyk138 hw143.2.2.2.2.2.2.1 (by omega) (ei_2l hLk138 hMk138))⟩⟩⟩
                · exact absurd c142 hnk138
              · obtain ⟨gv151, egv151⟩ : ∃ z : Int32, z = f134 1604 := ⟨_, rfl⟩
                have hg152 : gv151.toInt = ((i + 1 + 1 : Nat) : Int) := by rw [egv151]; exact hpk138
                have b153 : kb 0 gv151 400 := kb_pos hlk138 hN4 hg152
                refine lv_goto (tgt := 138) hx hb dX4_readOperand_130 (by decide) ?_
                refine lv_istore_n (lv' := [(3, .int v132), (2, .int v112), (0, .ref (r 50)), (1, .int dp)]) hx hb dX4_readOperand_138 rfl hl (by decide) rfl (fun ls hl => ?_)
                refine lv_iload_n hx hb dX4_readOperand_139 rfl (lv_at hl 0 rfl) ?_
                refine lv_iconst (v := (-1)) hx hb dX4_readOperand_140 (by decide) ?_
                refine lv_icmp_ne (tgt := 146) hx hb dX4_readOperand_141 (by decide) (fun c154 => ?_) (fun c154 => ?_)
                · refine lv_aload_n hx hb dX4_readOperand_146 rfl (lv_at hl 2 rfl) ?_
                  refine va_get (D := D) (ci := 4) (v := .ref (r 51)) (C := RX4) (T := TX4) (N := 7) hx hb hg inC4 hown hK hP 50 rfl rfl 0 (by decide) (hg _ wt2_64) (fun _ h9 => h9) rfl dX4_readOperand_147 ?_
                  refine lv_iconst (v := 1) hx hb dX4_readOperand_150 (by decide) ?_
                  refine lv_iload_n hx hb dX4_readOperand_151 rfl (lv_at hl 0 rfl) ?_
                  refine kIG.callW (As := [.int 1, .int v132]) (rest := []) ⟨hx, hb, hml, hown, hg⟩ (y_emit l r f134 a135 g136 tx tt hT hI hG 1 v132 (kb_w kc_1 (by decide) (by decide)) (kb_w hyk138 (by decide) (by decide)) (s0) (by show (f134 1637).toInt = ((s0 : Nat) : Int); rw [((eE137.1 1637 rfl).trans ((show f_121 1637 = f 1637 from by rw [← ef_121]; rfl).trans ecs.symm))]; exact hcs) (by omega)) (cwV 2 hg (kgV wt4_14 wt4_15 wt4_16 wt1_8 wt4_17) rfl rfl rfl (by decide +kernel) ⟨by dsimp only [rmD]; omega, by dsimp only [rmD]; omega⟩) hV hK hP hD hS hA (51) 10 rfl rfl rfl hl.1 rfl (Nat.le_of_ble_eq_true rfl) dX4_readOperand_152 ⟨Nat.le_refl _, Nat.le_refl _⟩ (fun v156 u157 H locs hw155 hP hD hS => ?_)
                  obtain ⟨f158, a159, g160⟩ := u157
                  have hP : va_P D vwCl (xX K r f158 a159 g160 tx) H := hP
                  have hD : va_D A (xX K r f158 a159 g160 tx) := hD
                  have hI : xI f158 a159 := hw155.2.1
                  have hG : gOK K g160.2 tt := hw155.2.2.1
                  have eE161 : xEk ([1637], [55], []) f134 a135 g136 f158 a159 g160 := hw155.2.2.2.1
                  have hE : xEk ([1604, 1605, 1637], [55], []) f a g f158 a159 g160 := xEk_tr hE (xEk_w (by decide +kernel) eE161)
                  have hk0 : xQ f158 a159 N true T pl := xQ_c hk0 (eE161.1 1603 rfl) (eE161.1 1606 rfl) ⟨eE161.2.1 56 rfl, eE161.2.1 57 rfl⟩
                  obtain ⟨zs162, ezs162⟩ : ∃ z : Int32, z = f158 1637 := ⟨_, rfl⟩
                  have hzzs162 : zs162.toInt = ((s0 + 1 : Nat) : Int) := by rw [ezs162]; exact hw155.2.2.2.2.2.1
                  refine lv_pop hx hb dX4_readOperand_155 rfl ?_
                  refine lv_iconst (v := 1) hx hb dX4_readOperand_156 (by decide) ?_
                  exact kI_ret (v := 1) hx hb hr hlocks (by decide +kernel) hK hS dX4_readOperand_157 (f158, a159, g160) hP hD ⟨(kb_w kc_1 (by decide) (by decide)), hI, hG, hE, ⟨i + 1 + 1, n + 1, (by show (f158 1604).toInt = ((i + 1 + 1 : Nat) : Int); rw [((eE161.1 1604 rfl).trans egv151.symm)]; exact hg152), (Nat.le_succ_of_le (Nat.le_succ_of_le (Nat.le_refl i))), hlk138, Or.inl ⟨rfl, ⟨(by show (f158 1605).toInt = ((n + 1 : Nat) : Int); rw [((eE161.1 1605 rfl).trans ((eE137.1 1605 rfl).trans (show f_121 1605 = t119 from by rw [← ef_121]; rfl)))]; exact hz122), hz123⟩, (by omega), (pi_2p (fun q => c115 (hw111.2.trans q)) hLk138 (by have w1 := (b118).2; omega) hMk138 hPk138), (cd_ord (by show (f158 1637).toInt = ((s0 + 1 : Nat) : Int); rw [ezs162.symm]; exact hzzs162) (fun p hp => (hw155.2.2.2.2.2.2.2 p hp).trans (congrFun (eE137.2.1 55 rfl) p)) (fun q => (fun q => by have w1 := q.2; have w2 := (b129).1; omega) (kb_eq hw111.2 q)) hwk138 hyk138 hw155.2.2.2.2.2.2.1 (by omega) (ei_2p hMk138 hPk138))⟩⟩⟩
                · exact absurd c154 hnk138
              · refine k_top (z := -1) hvk138 ?_
                obtain ⟨gv163, egv163⟩ : ∃ z : Int32, z = f134 1604 := ⟨_, rfl⟩
                have hg164 : gv163.toInt = ((i + 1 : Nat) : Int) := by rw [egv163]; exact hpk138
                have b165 : kb 0 gv163 400 := kb_pos hlk138 hN4 hg164
                refine lv_goto (tgt := 138) hx hb dX4_readOperand_130 (by decide) ?_
                refine lv_istore_n (lv' := [(3, .int (-1)), (2, .int v112), (0, .ref (r 50)), (1, .int dp)]) hx hb dX4_readOperand_138 rfl hl (by decide) rfl (fun ls hl => ?_)
                refine lv_iload_n hx hb dX4_readOperand_139 rfl (lv_at hl 0 rfl) ?_
                refine lv_iconst (v := (-1)) hx hb dX4_readOperand_140 (by decide) ?_
                refine lv_icmp_ne (tgt := 146) hx hb dX4_readOperand_141 (by decide) (fun c166 => ?_) (fun c166 => ?_)
                · exact kb_nsame c166 kc_m1 kc_m1
                · refine lv_iconst (v := 0) hx hb dX4_readOperand_144 (by decide) ?_
                  exact kI_ret (v := 0) hx hb hr hlocks (by decide +kernel) hK hS dX4_readOperand_145 (f134, a135, g136) hP hD ⟨(kb_w kc_0 (by decide) (by decide)), hI, hG, hE, ⟨i + 1, 0, (by show (f134 1604).toInt = ((i + 1 : Nat) : Int); rw [egv163.symm]; exact hg164), (Nat.le_succ_of_le (Nat.le_refl i)), hlk138, Or.inr ⟨rfl, (pi_2q (fun q => c115 (hw111.2.trans q)) hLk138 (by have w1 := (b118).2; omega) hMk138 hPk138)⟩⟩⟩
              · refine k_top (z := -1) hvk138 ?_
                obtain ⟨gv167, egv167⟩ : ∃ z : Int32, z = f134 1604 := ⟨_, rfl⟩
                have hg168 : gv167.toInt = ((i : Nat) : Int) := by rw [egv167]; exact hpk138
                have b169 : kb 0 gv167 400 := kb_pos hp2 hN4 hg168
                refine lv_goto (tgt := 138) hx hb dX4_readOperand_130 (by decide) ?_
                refine lv_istore_n (lv' := [(3, .int (-1)), (2, .int v112), (0, .ref (r 50)), (1, .int dp)]) hx hb dX4_readOperand_138 rfl hl (by decide) rfl (fun ls hl => ?_)
                refine lv_iload_n hx hb dX4_readOperand_139 rfl (lv_at hl 0 rfl) ?_
                refine lv_iconst (v := (-1)) hx hb dX4_readOperand_140 (by decide) ?_
                refine lv_icmp_ne (tgt := 146) hx hb dX4_readOperand_141 (by decide) (fun c170 => ?_) (fun c170 => ?_)
                · exact kb_nsame c170 kc_m1 kc_m1
                · refine lv_iconst (v := 0) hx hb dX4_readOperand_144 (by decide) ?_
                  exact kI_ret (v := 0) hx hb hr hlocks (by decide +kernel) hK hS dX4_readOperand_145 (f134, a135, g136) hP hD ⟨(kb_w kc_0 (by decide) (by decide)), hI, hG, hE, ⟨i, 0, (by show (f134 1604).toInt = ((i : Nat) : Int); rw [egv167.symm]; exact hg168), (Nat.le_refl i), hp2, Or.inr ⟨rfl, (pi_2x (fun q => c115 (hw111.2.trans q)) hLk138)⟩⟩⟩
          · have h171 := (kc_nlt c127)
            have b172 : kb 0 v112 1000 := kr_le1 h171 b114 kc_1000
            refine lv_aload_n hx hb dX4_readOperand_96 rfl (lv_at hl 1 rfl) ?_
            refine lv_dup hx hb dX4_readOperand_97 rfl ?_
            have hlt173 : i < N := xQ_lt hk0 (fun q => by have w1 := (b172).2; have w2 := congrArg Int32.toInt ((hw111.2).trans q); have w3 := i4000; omega)
            have b174 : kb 0 cz4 399 := kb_pos1 hlt173 hN4 hg0
            refine va_get (D := D) (ci := 4) (v := .int (f_121 1604)) (C := RX4) (T := TX4) (N := 7) hx hb hg inC4 hown hK hP 50 rfl rfl 4 (by decide) (hg _ wt2_69) (fun _ h9 => h9) rfl dX4_readOperand_98 ?_
            refine k_top (z := cz4) ((show f_121 1604 = f 1604 from by rw [← ef_121]; rfl).trans ecz4.symm) ?_
            refine lv_iconst (v := 1) hx hb dX4_readOperand_101 (by decide) ?_
            refine lv_iadd hx hb dX4_readOperand_102 ?_
            refine lv_topi (fun t175 et175 => ?_)
            have b176 : kb 1 t175 400 := kb_eq et175 (kb_add b174 kc_1 (by decide) (by decide))
            have qt175 : t175.toInt = cz4.toInt + 1 := by rw [et175]; exact kt_addc b174 kc_1 (by decide) (by decide)
            have hg177 : t175.toInt = ((i + 1 : Nat) : Int) := by rw [qt175, hg0]; omega
            refine va_put (D := D) (ci := 4) (v := .int t175) (ty := .int) (C := RX4) (T := TX4) (N := 7) hx hb hg inC4 tyX4 tyX4_ok nmX4 hown hK hP hD hS 50 rfl rfl 4 (by decide) (hg _ wt2_69) (fun _ h9 => h9) rfl (by decide +kernel) rfl rfl (Nat.le_of_ble_eq_true rfl) dX4_readOperand_103 (fun H locs hP hD hS => ?_)
            have hP : va_P D vwCl (xX K r (upd f_121 1604 t175) a g tx) H := hP
            have hD : va_D A (xX K r (upd f_121 1604 t175) a g tx) := hD
            refine k_gen (P := fun z => va_P D vwCl (xX K r z a g tx) H ∧ va_D A (xX K r z a g tx) ∧ (xI z a) ∧ (gOK K g.2 tt) ∧ (xEk ([1604, 1605, 1637], [55], []) f a g z a g) ∧ (xQ z a N true T pl)) (upd f_121 1604 t175) ⟨hP, hD, (xI_f hI (fI_st hI.1 1604 (kb_any _) (by decide) (by decide))), hG, (xEk_f hE rfl), (xQ_f hk0 (by decide) (by decide))⟩ (fun f_178 ef_178 hq => ?_)
            obtain ⟨hP, hD, hI, hG, hE, hk0⟩ := hq
            refine lv_aload_n hx hb dX4_readOperand_106 rfl (lv_at hl 1 rfl) ?_
            refine va_get (D := D) (ci := 4) (v := .ref (r 51)) (C := RX4) (T := TX4) (N := 7) hx hb hg inC4 hown hK hP 50 rfl rfl 0 (by decide) (hg _ wt2_64) (fun _ h9 => h9) rfl dX4_readOperand_107 ?_
            refine lv_iconst (v := 0) hx hb dX4_readOperand_110 (by decide) ?_
            refine lv_iload_n hx hb dX4_readOperand_111 rfl (lv_at hl 0 rfl) ?_
            refine kIG.callW (As := [.int 0, .int v112]) (rest := []) ⟨hx, hb, hml, hown, hg⟩ (y_emit l r f_178 a g tx tt hT hI hG 0 v112 (kb_w kc_0 (by decide) (by decide)) (kb_w b172 (by decide) (by decide)) (s0) (by show (f_178 1637).toInt = ((s0 : Nat) : Int); rw [((show f_178 1637 = f_121 1637 from by rw [← ef_178]; rfl).trans ((show f_121 1637 = f 1637 from by rw [← ef_121]; rfl).trans ecs.symm))]; exact hcs) (by omega)) (cwV 2 hg (kgV wt4_14 wt4_15 wt4_16 wt1_8 wt4_17) rfl rfl rfl (by decide +kernel) ⟨by dsimp only [rmD]; omega, by dsimp only [rmD]; omega⟩) hV hK hP hD hS hA (51) 10 rfl rfl rfl hl.1 rfl (Nat.le_of_ble_eq_true rfl) dX4_readOperand_112 ⟨Nat.le_refl _, Nat.le_refl _⟩ (fun v180 u181 H locs hw179 hP hD hS => ?_)
            obtain ⟨f182, a183, g184⟩ := u181
            have hP : va_P D vwCl (xX K r f182 a183 g184 tx) H := hP
            have hD : va_D A (xX K r f182 a183 g184 tx) := hD
            have hI : xI f182 a183 := hw179.2.1
            have hG : gOK K g184.2 tt := hw179.2.2.1
            have eE185 : xEk ([1637], [55], []) f_178 a g f182 a183 g184 := hw179.2.2.2.1
            have hE : xEk ([1604, 1605, 1637], [55], []) f a g f182 a183 g184 := xEk_tr hE (xEk_w (by decide +kernel) eE185)
            have hk0 : xQ f182 a183 N true T pl := xQ_c hk0 (eE185.1 1603 rfl) (eE185.1 1606 rfl) ⟨eE185.2.1 56 rfl, eE185.2.1 57 rfl⟩
            obtain ⟨zs186, ezs186⟩ : ∃ z : Int32, z = f182 1637 := ⟨_, rfl⟩
            have hzzs186 : zs186.toInt = ((s0 + 1 : Nat) : Int) := by rw [ezs186]; exact hw179.2.2.2.2.2.1
            refine lv_pop hx hb dX4_readOperand_115 rfl ?_
            refine lv_iconst (v := 1) hx hb dX4_readOperand_116 (by decide) ?_
            exact kI_ret (v := 1) hx hb hr hlocks (by decide +kernel) hK hS dX4_readOperand_117 (f182, a183, g184) hP hD ⟨(kb_w kc_1 (by decide) (by decide)), hI, hG, hE, ⟨i + 1, n + 1, (by show (f182 1604).toInt = ((i + 1 : Nat) : Int); rw [((eE185.1 1604 rfl).trans (show f_178 1604 = t175 from by rw [← ef_178]; rfl))]; exact hg177), (Nat.le_succ_of_le (Nat.le_refl i)), hlt173, Or.inl ⟨rfl, ⟨(by show (f182 1605).toInt = ((n + 1 : Nat) : Int); rw [((eE185.1 1605 rfl).trans ((show f_178 1605 = f_121 1605 from by rw [← ef_178]; rfl).trans (show f_121 1605 = t119 from by rw [← ef_121]; rfl)))]; exact hz122), hz123⟩, (by omega), (pi_2l (fun q => c115 (hw111.2.trans q)) (lfx_n (ob := true) (kb_eq hw111.2.symm b172)).1 (by have w1 := (b118).2; omega) (lfx_n (ob := true) (kb_eq hw111.2.symm b172)).2), (cd_num (by show (f182 1637).toInt = ((s0 + 1 : Nat) : Int); rw [ezs186.symm]; exact hzzs186) hw179.2.2.2.2.2.2.2 (kb_eq hw111.2.symm b172) (by have w1 := hw179.2.2.2.2.2.2.1; rw [hw111.2] at w1; exact w1) (lfx_n (ob := true) (kb_eq hw111.2.symm b172)).1 (lfx_n (ob := true) (kb_eq hw111.2.symm b172)).2)⟩⟩⟩
      · have h187 := (kc_nlt c116)
        have b188 : kb 50 cz5 50 := kr_le2 h187 kc_50 b2
        refine lv_iconst (v := 0) hx hb dX4_readOperand_73 (by decide) ?_
        exact kI_ret (v := 0) hx hb hr hlocks (by decide +kernel) hK hS dX4_readOperand_74 (f, a, g) hP hD ⟨(kb_w kc_0 (by decide) (by decide)), hI, hG, hE, ⟨i, 0, (by show (f 1604).toInt = ((i : Nat) : Int); rw [ecz4.symm]; exact hg0), (Nat.le_refl i), hp2, Or.inr ⟨rfl, (pi_2e (fun q => c115 (hw111.2.trans q)) (by have w1 := (b188).1; omega))⟩⟩⟩
    · have b189 : kb 3091 v112 3091 := kb_eq c115 kc_3091
      refine lv_iload_n hx hb dX4_readOperand_12 rfl (lv_at hl 2 rfl) ?_
      refine lv_bipush (v := 8) hx hb dX4_readOperand_13 (by decide) ?_
      refine lv_icmp_lt (tgt := 20) hx hb dX4_readOperand_15 (by decide) (fun c190 => ?_) (fun c190 => ?_)
      · have h191 := (kc_lt c190)
        have b192 : kb 0 dp 7 := kr_lt1 h191 bdp kc_8 (by decide)
        refine lv_aload_n hx hb dX4_readOperand_20 rfl (lv_at hl 1 rfl) ?_
        refine lv_dup hx hb dX4_readOperand_21 rfl ?_
        have hlt193 : i < N := xQ_lt hk0 (ne_4000 (hw111.2.symm.trans c115) (by decide +kernel))
        have b194 : kb 0 cz4 399 := kb_pos1 hlt193 hN4 hg0
        refine va_get (D := D) (ci := 4) (v := .int (f 1604)) (C := RX4) (T := TX4) (N := 7) hx hb hg inC4 hown hK hP 50 rfl rfl 4 (by decide) (hg _ wt2_69) (fun _ h9 => h9) rfl dX4_readOperand_22 ?_
        refine k_top (z := cz4) ecz4.symm ?_
        refine lv_iconst (v := 1) hx hb dX4_readOperand_25 (by decide) ?_
        refine lv_iadd hx hb dX4_readOperand_26 ?_
        refine lv_topi (fun t195 et195 => ?_)
        have b196 : kb 1 t195 400 := kb_eq et195 (kb_add b194 kc_1 (by decide) (by decide))
        have qt195 : t195.toInt = cz4.toInt + 1 := by rw [et195]; exact kt_addc b194 kc_1 (by decide) (by decide)
        have hg197 : t195.toInt = ((i + 1 : Nat) : Int) := by rw [qt195, hg0]; omega
        refine va_put (D := D) (ci := 4) (v := .int t195) (ty := .int) (C := RX4) (T := TX4) (N := 7) hx hb hg inC4 tyX4 tyX4_ok nmX4 hown hK hP hD hS 50 rfl rfl 4 (by decide) (hg _ wt2_69) (fun _ h9 => h9) rfl (by decide +kernel) rfl rfl (Nat.le_of_ble_eq_true rfl) dX4_readOperand_27 (fun H locs hP hD hS => ?_)
        have hP : va_P D vwCl (xX K r (upd f 1604 t195) a g tx) H := hP
        have hD : va_D A (xX K r (upd f 1604 t195) a g tx) := hD
        refine k_gen (P := fun z => va_P D vwCl (xX K r z a g tx) H ∧ va_D A (xX K r z a g tx) ∧ (xI z a) ∧ (gOK K g.2 tt) ∧ (xEk ([1604, 1605, 1637], [55], []) f a g z a g) ∧ (xQ z a N true T pl)) (upd f 1604 t195) ⟨hP, hD, (xI_f hI (fI_st hI.1 1604 (kb_any _) (by decide) (by decide))), hG, (xEk_f hE rfl), (xQ_f hk0 (by decide) (by decide))⟩ (fun f_198 ef_198 hq => ?_)
        obtain ⟨hP, hD, hI, hG, hE, hk0⟩ := hq
        obtain ⟨ee, hd⟩ : ∃ ee, d = ee + 1 := ⟨d - 1, by have w1 := hp5; have w2 := (b192).2; omega⟩
        refine lv_aload_n hx hb dX4_readOperand_30 rfl (lv_at hl 1 rfl) ?_
        refine lv_iload_n hx hb dX4_readOperand_31 rfl (lv_at hl 2 rfl) ?_
        refine lv_iconst (v := 1) hx hb dX4_readOperand_32 (by decide) ?_
        refine lv_iadd hx hb dX4_readOperand_33 ?_
        refine lv_topi (fun t199 et199 => ?_)
        have b200 : kb 1 t199 8 := kb_eq et199 (kb_add b192 kc_1 (by decide) (by decide))
        have qt199 : t199.toInt = dp.toInt + 1 := by rw [et199]; exact kt_addc b192 kc_1 (by decide) (by decide)
        refine kIG.callW (As := [.int t199]) (rest := []) ⟨hx, hb, hml, hown, hg⟩ ((ih ee hd) l r f_198 a g tx tt hT hI hG t199 (kb_w b200 (by decide) (by decide)) N (i + 1) (n) (s0) true T pl hk0 (by rw [(show f_198 1604 = t195 from by rw [← ef_198]; rfl)]; exact hg197) hlt193 ⟨(by rw [((show f_198 1605 = f 1605 from by rw [← ef_198]; rfl).trans ecz5.symm)]; exact hn5), hl5⟩ ⟨(by show (f_198 1637).toInt = ((s0 : Nat) : Int); rw [((show f_198 1637 = f 1637 from by rw [← ef_198]; rfl).trans ecs.symm)]; exact hcs), (by omega)⟩ (by have w1 := hp5; have w2 := qt199; omega)) (cwV 1 hg (kgV wt4_6 wt4_8 wp1_13 wt1_7 wt4_9) rfl rfl rfl (by decide +kernel) ⟨by dsimp only [rmD]; omega, by dsimp only [rmD]; omega⟩) hV hK hP hD hS hA (50) 4 rfl rfl rfl hl.1 rfl (Nat.le_of_ble_eq_true rfl) dX4_readOperand_34 ⟨Nat.le_refl _, Nat.le_refl _⟩ (fun v202 u203 H locs hw201 hP hD hS => ?_)
        obtain ⟨f204, a205, g206⟩ := u203
        have hP : va_P D vwCl (xX K r f204 a205 g206 tx) H := hP
        have hD : va_D A (xX K r f204 a205 g206 tx) := hD
        have hI : xI f204 a205 := hw201.2.1
        have hG : gOK K g206.2 tt := hw201.2.2.1
        have eE207 : xEk ([1604, 1605, 1637], [55], []) f_198 a g f204 a205 g206 := hw201.2.2.2.1
        have hE : xEk ([1604, 1605, 1637], [55], []) f a g f204 a205 g206 := xEk_tr hE eE207
        have hk0 : xQ f204 a205 N true T pl := xQ_c hk0 (eE207.1 1603 rfl) (eE207.1 1606 rfl) ⟨eE207.2.1 56 rfl, eE207.2.1 57 rfl⟩
        obtain ⟨ik208, nk208, hgk208, hlek208, hNk208, hck208⟩ := hw201.2.2.2.2
        rcases hck208 with ⟨hvk208, h3k208, hltk208, hGk208, hcdk208⟩ | ⟨hvk208, hGk208⟩
        · refine k_top (z := 1) hvk208 ?_
          obtain ⟨gv209, egv209⟩ : ∃ z : Int32, z = f204 1604 := ⟨_, rfl⟩
          have hg210 : gv209.toInt = ((ik208 : Nat) : Int) := by rw [egv209]; exact hgk208
          have b211 : kb 0 gv209 400 := kb_pos hNk208 hN4 hg210
          obtain ⟨z212, ez212⟩ : ∃ z : Int32, z = f204 1605 := ⟨_, rfl⟩
          have hzz212 : z212.toInt = ((nk208 : Nat) : Int) := by rw [ez212]; exact h3k208.1
          have b213 : kb 0 z212 50 := ⟨by omega, by have w1 := h3k208.2; omega⟩
          obtain ⟨sk208, wk208, hzk208, hlk208, hqk208, hek208, hrk208⟩ := hcdk208
          obtain ⟨zs214, ezs214⟩ : ∃ z : Int32, z = f204 1637 := ⟨_, rfl⟩
          have hzzs214 : zs214.toInt = ((sk208 : Nat) : Int) := by rw [ezs214]; exact hzk208
          refine lv_if_eq (tgt := 50) hx hb dX4_readOperand_37 (by decide) (fun c215 => ?_) (fun c215 => ?_)
          · exact kb_dj c215 kc_1 kc_0 (by decide)
          · refine lv_aload_n hx hb dX4_readOperand_40 rfl (lv_at hl 1 rfl) ?_
            refine kIG.callW (As := []) (rest := []) ⟨hx, hb, hml, hown, hg⟩ (y_inHand l r f204 a205 g206 tx tt hT hI hG   N (ik208) true T pl hk0 (by rw [egv209.symm]; exact hg210) hNk208) (cwV 0 hg (kgV wt3_238 wt4_0 wp1_12 wt1_7 wt4_1) rfl rfl rfl (by decide +kernel) ⟨by dsimp only [rmD]; omega, by dsimp only [rmD]; omega⟩) hV hK hP hD hS hA (50) 4 rfl rfl rfl hl.1 rfl (Nat.le_of_ble_eq_true rfl) dX4_readOperand_41 ⟨Nat.le_refl _, Nat.le_refl _⟩ (fun v217 u218 H locs hw216 hP hD hS => ?_)
            have hP : va_P D vwCl (xX K r f204 a205 g206 tx) H := hP
            have hD : va_D A (xX K r f204 a205 g206 tx) := hD
            have b219 : kb 0 v217 4000 := kb_eq hw216.2 (hk0.2.2.2.2.2.2 (ik208))
            refine lv_sipush (v := 3093) hx hb dX4_readOperand_44 (by decide) ?_
            refine lv_icmp_eq (tgt := 52) hx hb dX4_readOperand_47 (by decide) (fun c220 => ?_) (fun c220 => ?_)
            · have b221 : kb 3093 v217 3093 := kb_eq c220 kc_3093
              refine lv_aload_n hx hb dX4_readOperand_52 rfl (lv_at hl 1 rfl) ?_
              refine lv_dup hx hb dX4_readOperand_53 rfl ?_
              have hlt222 : ik208 < N := xQ_lt hk0 (ne_4000 (hw216.2.symm.trans c220) (by decide +kernel))
              have b223 : kb 0 gv209 399 := kb_pos1 hlt222 hN4 hg210
              refine va_get (D := D) (ci := 4) (v := .int (f204 1604)) (C := RX4) (T := TX4) (N := 7) hx hb hg inC4 hown hK hP 50 rfl rfl 4 (by decide) (hg _ wt2_69) (fun _ h9 => h9) rfl dX4_readOperand_54 ?_
              refine k_top (z := gv209) egv209.symm ?_
              refine lv_iconst (v := 1) hx hb dX4_readOperand_57 (by decide) ?_
              refine lv_iadd hx hb dX4_readOperand_58 ?_
              refine lv_topi (fun t224 et224 => ?_)
              have b225 : kb 1 t224 400 := kb_eq et224 (kb_add b223 kc_1 (by decide) (by decide))
              have qt224 : t224.toInt = gv209.toInt + 1 := by rw [et224]; exact kt_addc b223 kc_1 (by decide) (by decide)
              have hg226 : t224.toInt = ((ik208 + 1 : Nat) : Int) := by rw [qt224, hg210]; omega
              refine va_put (D := D) (ci := 4) (v := .int t224) (ty := .int) (C := RX4) (T := TX4) (N := 7) hx hb hg inC4 tyX4 tyX4_ok nmX4 hown hK hP hD hS 50 rfl rfl 4 (by decide) (hg _ wt2_69) (fun _ h9 => h9) rfl (by decide +kernel) rfl rfl (Nat.le_of_ble_eq_true rfl) dX4_readOperand_59 (fun H locs hP hD hS => ?_)
              have hP : va_P D vwCl (xX K r (upd f204 1604 t224) a205 g206 tx) H := hP
              have hD : va_D A (xX K r (upd f204 1604 t224) a205 g206 tx) := hD
              refine k_gen (P := fun z => va_P D vwCl (xX K r z a205 g206 tx) H ∧ va_D A (xX K r z a205 g206 tx) ∧ (xI z a205) ∧ (gOK K g206.2 tt) ∧ (xEk ([1604, 1605, 1637], [55], []) f a g z a205 g206) ∧ (xQ z a205 N true T pl)) (upd f204 1604 t224) ⟨hP, hD, (xI_f hI (fI_st hI.1 1604 (kb_any _) (by decide) (by decide))), hG, (xEk_f hE rfl), (xQ_f hk0 (by decide) (by decide))⟩ (fun f_227 ef_227 hq => ?_)
              obtain ⟨hP, hD, hI, hG, hE, hk0⟩ := hq
              refine lv_iconst (v := 1) hx hb dX4_readOperand_62 (by decide) ?_
              exact kI_ret (v := 1) hx hb hr hlocks (by decide +kernel) hK hS dX4_readOperand_63 (f_227, a205, g206) hP hD ⟨(kb_w kc_1 (by decide) (by decide)), hI, hG, hE, ⟨ik208 + 1, nk208, (by show (f_227 1604).toInt = ((ik208 + 1 : Nat) : Int); rw [(show f_227 1604 = t224 from by rw [← ef_227]; rfl)]; exact hg226), (Nat.le_succ_of_le (Nat.le_trans (Nat.le_succ_of_le (Nat.le_refl i)) hlek208)), hlt222, Or.inl ⟨rfl, ⟨(by show (f_227 1605).toInt = ((nk208 : Nat) : Int); rw [((show f_227 1605 = f204 1605 from by rw [← ef_227]; rfl).trans ez212.symm)]; exact hzz212), h3k208.2⟩, (by omega), (pi_2a (hw111.2.symm.trans c115) hd hGk208 (hw216.2.symm.trans c220)), (cd_brk (hw111.2.symm.trans c115) hd (hw216.2.symm.trans c220) ⟨sk208, wk208, (by show (f_227 1637).toInt = ((sk208 : Nat) : Int); rw [((show f_227 1637 = f204 1637 from by rw [← ef_227]; rfl).trans ezs214.symm)]; exact hzzs214), hlk208, hqk208, hek208, hrk208⟩)⟩⟩⟩
            · refine lv_iconst (v := 0) hx hb dX4_readOperand_50 (by decide) ?_
              exact kI_ret (v := 0) hx hb hr hlocks (by decide +kernel) hK hS dX4_readOperand_51 (f204, a205, g206) hP hD ⟨(kb_w kc_0 (by decide) (by decide)), hI, hG, hE, ⟨ik208, 0, (by show (f204 1604).toInt = ((ik208 : Nat) : Int); rw [egv209.symm]; exact hg210), (Nat.le_trans (Nat.le_succ_of_le (Nat.le_refl i)) hlek208), hNk208, Or.inr ⟨rfl, (pi_2b (hw111.2.symm.trans c115) hd hGk208 (fun q => c220 (hw216.2.trans q)))⟩⟩⟩
        · refine k_top (z := 0) hvk208 ?_
          obtain ⟨gv228, egv228⟩ : ∃ z : Int32, z = f204 1604 := ⟨_, rfl⟩
          have hg229 : gv228.toInt = ((ik208 : Nat) : Int) := by rw [egv228]; exact hgk208
          have b230 : kb 0 gv228 400 := kb_pos hNk208 hN4 hg229
          refine lv_if_eq (tgt := 50) hx hb dX4_readOperand_37 (by decide) (fun c231 => ?_) (fun c231 => ?_)
          · refine lv_iconst (v := 0) hx hb dX4_readOperand_50 (by decide) ?_
            exact kI_ret (v := 0) hx hb hr hlocks (by decide +kernel) hK hS dX4_readOperand_51 (f204, a205, g206) hP hD ⟨(kb_w kc_0 (by decide) (by decide)), hI, hG, hE, ⟨ik208, 0, (by show (f204 1604).toInt = ((ik208 : Nat) : Int); rw [egv228.symm]; exact hg229), (Nat.le_trans (Nat.le_succ_of_le (Nat.le_refl i)) hlek208), hNk208, Or.inr ⟨rfl, (pi_2f (hw111.2.symm.trans c115) hd hGk208)⟩⟩⟩
          · exact kb_nsame c231 kc_0 kc_0
      · have h232 := (kc_nlt c190)
        have b233 : kb 8 dp 8 := kr_le2 h232 kc_8 bdp
        refine lv_iconst (v := 0) hx hb dX4_readOperand_18 (by decide) ?_
        exact kI_ret (v := 0) hx hb hr hlocks (by decide +kernel) hK hS dX4_readOperand_19 (f, a, g) hP hD ⟨(kb_w kc_0 (by decide) (by decide)), hI, hG, hE, ⟨i, 0, (by show (f 1604).toInt = ((i : Nat) : Int); rw [ecz4.symm]; exact hg0), (Nat.le_refl i), hp2, Or.inr ⟨rfl, (pi_2z (hw111.2.symm.trans c115) (by have w1 := hp5; have w2 := (b233).1; omega))⟩⟩⟩
set_option maxHeartbeats 4000000 in
set_option maxRecDepth 100000 in
theorem y_readSum (d : Nat) (hop : eXOp d) (l : Launch) {D : va_G} {K : Nat → ClassId} (r : Nat → Nat) (f : Nat → Int32) (a : Nat → Nat → Int32) (g : xG) (tx tt : va_W) (hT : ∀ c ∈ tt, c ∈ tx) (hI : xI f a) (hG : gOK K g.2 tt) (dp : Int32) (bdp : kb 0 dp 8) (N i n s0 : Nat) (ob : Bool) (T pl : Nat → Int32) (hp0 : xQ f a N ob T pl) (hp1 : (f 1604).toInt = (i : Int)) (hp2 : i ≤ N) (hp3 : (f 1605).toInt = (n : Int) ∧ n ≤ 50) (hp4 : (f 1637).toInt = (s0 : Int) ∧ s0 ≤ i) (hp5 : dp.toInt + (d : Int) = 8) : kIG l yX4_readSum (Cond.code yX4_readSum cX4_readSum 6 (some .boolean) :: kG) (rmD (2 * d + 8) 0 0) D K [.ref (r 50), .int dp] (xX K r f a g tx) (fun v (u : xS) => kb 0 v 1 ∧ xI u.1 u.2.1 ∧ gOK K u.2.2.2 tt ∧ xEk ([1604, 1605, 1637], [55], []) f a g u.1 u.2.1 u.2.2 ∧ (∃ i2 n2 : Nat, (u.1 1604).toInt = (i2 : Int) ∧ i ≤ i2 ∧ i2 ≤ N ∧ ((v = 1 ∧ ((u.1 1605).toInt = (n2 : Int) ∧ n2 ≤ 50) ∧ i < i2 ∧ pG ob T d 0 i n (true, i2, n2) ∧ cdP ob T d 0 i i2 s0 (a 55) (u.2.1 55) (u.1 1637) (2 * d + 3)) ∨ (v = 0 ∧ pG ob T d 0 i n (false, i2, 0))))) (fun u => xX K r u.1 u.2.1 u.2.2 tx) 0 0 := by
  refine kIE.of (cc := cX4_readSum) (maxL := 6) (ret := (some .boolean)) (by decide) rfl (Nat.le_of_ble_eq_true rfl) ?_
  intro p e s m below meth c A hx hb hr hml hown hts hlocks hnm hK hP hD hS hA hV ls hl
  have hE : xEk ([1604, 1605, 1637], [55], []) f a g f a g := xEk_rf
  have hg : ∀ w ∈ kG, w.before _ s = true := fun w h => hts w (List.mem_cons_of_mem _ h)
  have hown : s.vm.findClass RX4 = some m.cls := hown
  have hl : lv_has ls 6 [(0, .ref (r 50)), (1, .int dp)] := hl
  have hk0 := hp0
  have hN4 := hp0.2.1
  obtain ⟨cz4, ecz4⟩ : ∃ z : Int32, z = f 1604 := ⟨_, rfl⟩
  have hg0 : cz4.toInt = (i : Int) := by rw [ecz4]; exact hp1
  have b1 : kb 0 cz4 400 := kb_pos hp2 hN4 hg0
  obtain ⟨cz5, ecz5⟩ : ∃ z : Int32, z = f 1605 := ⟨_, rfl⟩
  have hn5 : cz5.toInt = (n : Int) := by rw [ecz5]; exact hp3.1
  have hl5 := hp3.2
  have b2 : kb 0 cz5 50 := ⟨by omega, by omega⟩
  obtain ⟨cs, ecs⟩ : ∃ z : Int32, z = f 1637 := ⟨_, rfl⟩
  have hcs : cs.toInt = (s0 : Int) := by rw [ecs]; exact hp4.1
  have hsi := hp4.2
  refine lv_iconst (v := (-1)) hx hb dX4_readSum_0 (by decide) ?_
  refine lv_istore_n (lv' := [(2, .int (-1)), (0, .ref (r 50)), (1, .int dp)]) hx hb dX4_readSum_1 rfl hl (by decide) rfl (fun ls hl => ?_)
  refine lv_iconst (v := 0) hx hb dX4_readSum_2 (by decide) ?_
  refine lv_istore_n (lv' := [(3, .int 0), (2, .int (-1)), (0, .ref (r 50)), (1, .int dp)]) hx hb dX4_readSum_3 rfl hl (by decide) rfl (fun ls hl => ?_)
  have lp8 : ∀ (n9 : Nat) (i0 : Nat) (n0 : Nat) (ko : Nat) (so : Nat) (F5 : Nat → Int32) (B6 : Nat → Nat → Int32) (G7 : xG) (H : Heap) (locs : List Loc) (ls : Array Slot) (y3 : Int32) (y4 : Int32), (400 < y3.toInt + (n9 : Int)) → (xI F5 B6) → (gOK K G7.2 tt) → (xEk ([1604, 1605, 1637], [55], []) f a g F5 B6 G7) → (xQ F5 B6 N ob T pl) → (kb 0 y3 400) → (kb (-1) y4 12) → ((F5 1604).toInt = (i0 : Int)) → (i + 2 * ko ≤ i0 ∧ i0 ≤ N) → ((F5 1605).toInt = (n0 : Int) ∧ n0 ≤ 50) → (∀ r, pG ob T d 0 i0 n0 r → pG ob T d 0 i n r) → (y3.toInt = (ko : Int)) → ((F5 1637).toInt = (so : Int)) → (sO1 ob T d (B6 55) i s0 i0 so y4) → (∀ p, p < s0 → B6 55 p = a 55 p) → va_P D vwCl (xX K r F5 B6 G7 tx) H → va_D A (xX K r F5 B6 G7 tx) → va_S A s.heap H locs → lv_has ls 6 [(3, .int y3), (2, .int y4), (0, .ref (r 50)), (1, .int dp)] → W p l e (rmD (2 * d + 8) 0 0) s m ([.ref (r 50), .int dp] : List Value).toArray below meth c H locs 0 0 (kQi D (tysK K) (fun v (u : xS) => kb 0 v 1 ∧ xI u.1 u.2.1 ∧ gOK K u.2.2.2 tt ∧ xEk ([1604, 1605, 1637], [55], []) f a g u.1 u.2.1 u.2.2 ∧ (∃ i2 n2 : Nat, (u.1 1604).toInt = (i2 : Int) ∧ i ≤ i2 ∧ i2 ≤ N ∧ ((v = 1 ∧ ((u.1 1605).toInt = (n2 : Int) ∧ n2 ≤ 50) ∧ i < i2 ∧ pG ob T d 0 i n (true, i2, n2) ∧ cdP ob T d 0 i i2 s0 (a 55) (u.2.1 55) (u.1 1637) (2 * d + 3)) ∨ (v = 0 ∧ pG ob T d 0 i n (false, i2, 0))))) (fun u => xX K r u.1 u.2.1 u.2.2 tx) A below ([.ref (r 50), .int dp] : List Value).toArray s 0 0) (F0 m 4 ls []) := by
    intro n9
    induction n9 with
    | zero =>
      intro i0 n0 ko so F5 B6 G7  H locs ls y3 y4 hmlp8 hI hG hE hk0 b10 b11 hvlp8_0 hvlp8_1 hvlp8_2 hvlp8_3 hvlp8_4 hvlp8_5 hvlp8_6 hvlp8_7 hP hD hS hl
      exact (by have h1 := b10.2; have h2 := hmlp8; omega : False).elim
    | succ n9 ihlp8 =>
      intro i0 n0 ko so F5 B6 G7  H locs ls y3 y4 hmlp8 hI hG hE hk0 b10 b11 hvlp8_0 hvlp8_1 hvlp8_2 hvlp8_3 hvlp8_4 hvlp8_5 hvlp8_6 hvlp8_7 hP hD hS hl
      obtain ⟨gv12, egv12⟩ : ∃ z : Int32, z = F5 1604 := ⟨_, rfl⟩
      have hg13 : gv12.toInt = ((i0 : Nat) : Int) := by rw [egv12]; exact hvlp8_0
      have b14 : kb 0 gv12 400 := kb_pos hvlp8_1.2 hN4 hg13
      obtain ⟨z15, ez15⟩ : ∃ z : Int32, z = F5 1605 := ⟨_, rfl⟩
      have hzz15 : z15.toInt = ((n0 : Nat) : Int) := by rw [ez15]; exact hvlp8_2.1
      have b16 : kb 0 z15 50 := ⟨by omega, by have w1 := hvlp8_2.2; omega⟩
      have xo := hvlp8_3
      obtain ⟨zs17, ezs17⟩ : ∃ z : Int32, z = F5 1637 := ⟨_, rfl⟩
      have hzzs17 : zs17.toInt = ((so : Nat) : Int) := by rw [ezs17]; exact hvlp8_5
      have hno := hvlp8_6
      have hpo := hvlp8_7
      have hlo : so ≤ i0 := sO1_le hno hsi
      refine lv_iload_n hx hb dX4_readSum_4 rfl (lv_at hl 0 rfl) ?_
      refine lv_sipush (v := 400) hx hb dX4_readSum_5 (by decide) ?_
      refine lv_icmp_ge (tgt := 173) hx hb dX4_readSum_8 (by decide) (fun c18 => ?_) (fun c18 => ?_)
      · exact (by have w1 := kc_le c18; have w2 := hvlp8_4; have w3 := hvlp8_1; have w4 : (400 : Int32).toInt = 400 := (by decide +kernel); omega : False).elim
      · have h19 := (kc_nle c18)
        have b20 : kb 0 y3 399 := kr_lt1 h19 b10 kc_400 (by decide)
        refine lv_iconst (v := (-1)) hx hb dX4_readSum_11 (by decide) ?_
        refine lv_istore (lv' := [(4, .int (-1)), (3, .int y3), (2, .int y4), (0, .ref (r 50)), (1, .int dp)]) hx hb dX4_readSum_12 hl (by decide) rfl (fun ls hl => ?_)
        refine lv_iconst (v := 0) hx hb dX4_readSum_14 (by decide) ?_
        refine lv_istore (lv' := [(5, .int 0), (4, .int (-1)), (3, .int y3), (2, .int y4), (0, .ref (r 50)), (1, .int dp)]) hx hb dX4_readSum_15 hl (by decide) rfl (fun ls hl => ?_)
        have lp26 : ∀ (n27 : Nat) (i1 : Nat) (n1 : Nat) (ki : Nat) (s1 : Nat) (F23 : Nat → Int32) (B24 : Nat → Nat → Int32) (G25 : xG) (H : Heap) (locs : List Loc) (ls : Array Slot) (y21 : Int32) (y22 : Int32), (400 < y21.toInt + (n27 : Int)) → (xI F23 B24) → (gOK K G25.2 tt) → (xEk ([1604, 1605, 1637], [55], []) f a g F23 B24 G25) → (xQ F23 B24 N ob T pl) → (kb 0 y21 400) → (kb (-1) y22 12) → ((F23 1604).toInt = (i1 : Int)) → (i0 + 2 * ki ≤ i1 ∧ i1 ≤ N) → ((F23 1605).toInt = (n1 : Int) ∧ n1 ≤ 50) → (∀ r, pG ob T d 1 i1 n1 r → pG ob T d 1 i0 n0 r) → (y21.toInt = (ki : Int)) → ((F23 1637).toInt = (s1 : Int)) → (sI1 ob T d (B24 55) i0 so i1 s1 y22) → (∀ p, p < so → B24 55 p = B6 55 p) → va_P D vwCl (xX K r F23 B24 G25 tx) H → va_D A (xX K r F23 B24 G25 tx) → va_S A s.heap H locs → lv_has ls 6 [(5, .int y21), (4, .int y22), (3, .int y3), (2, .int y4), (0, .ref (r 50)), (1, .int dp)] → W p l e (rmD (2 * d + 8) 0 0) s m ([.ref (r 50), .int dp] : List Value).toArray below meth c H locs 0 0 (kQi D (tysK K) (fun v (u : xS) => kb 0 v 1 ∧ xI u.1 u.2.1 ∧ gOK K u.2.2.2 tt ∧ xEk ([1604, 1605, 1637], [55], []) f a g u.1 u.2.1 u.2.2 ∧ (∃ i2 n2 : Nat, (u.1 1604).toInt = (i2 : Int) ∧ i ≤ i2 ∧ i2 ≤ N ∧ ((v = 1 ∧ ((u.1 1605).toInt = (n2 : Int) ∧ n2 ≤ 50) ∧ i < i2 ∧ pG ob T d 0 i n (true, i2, n2) ∧ cdP ob T d 0 i i2 s0 (a 55) (u.2.1 55) (u.1 1637) (2 * d + 3)) ∨ (v = 0 ∧ pG ob T d 0 i n (false, i2, 0))))) (fun u => xX K r u.1 u.2.1 u.2.2 tx) A below ([.ref (r 50), .int dp] : List Value).toArray s 0 0) (F0 m 17 ls []) := by
          intro n27
          induction n27 with
          | zero =>
            intro i1 n1 ki s1 F23 B24 G25  H locs ls y21 y22 hmlp26 hI hG hE hk0 b28 b29 hvlp26_0 hvlp26_1 hvlp26_2 hvlp26_3 hvlp26_4 hvlp26_5 hvlp26_6 hvlp26_7 hP hD hS hl
            exact (by have h1 := b28.2; have h2 := hmlp26; omega : False).elim
          | succ n27 ihlp26 =>
            intro i1 n1 ki s1 F23 B24 G25  H locs ls y21 y22 hmlp26 hI hG hE hk0 b28 b29 hvlp26_0 hvlp26_1 hvlp26_2 hvlp26_3 hvlp26_4 hvlp26_5 hvlp26_6 hvlp26_7 hP hD hS hl
            obtain ⟨gv30, egv30⟩ : ∃ z : Int32, z = F23 1604 := ⟨_, rfl⟩
            have hg31 : gv30.toInt = ((i1 : Nat) : Int) := by rw [egv30]; exact hvlp26_0
            have b32 : kb 0 gv30 400 := kb_pos hvlp26_1.2 hN4 hg31
            obtain ⟨z33, ez33⟩ : ∃ z : Int32, z = F23 1605 := ⟨_, rfl⟩
            have hzz33 : z33.toInt = ((n1 : Nat) : Int) := by rw [ez33]; exact hvlp26_2.1
            have b34 : kb 0 z33 50 := ⟨by omega, by have w1 := hvlp26_2.2; omega⟩
            have xi := hvlp26_3
            obtain ⟨zs35, ezs35⟩ : ∃ z : Int32, z = F23 1637 := ⟨_, rfl⟩
            have hzzs35 : zs35.toInt = ((s1 : Nat) : Int) := by rw [ezs35]; exact hvlp26_5
            have hni := hvlp26_6
            have hpi := hvlp26_7
            have hli : s1 ≤ i1 := sI1_le hni hlo
            refine lv_iload hx hb dX4_readSum_17 (lv_at hl 0 rfl) ?_
            refine lv_sipush (v := 400) hx hb dX4_readSum_19 (by decide) ?_
            refine lv_icmp_ge (tgt := 114) hx hb dX4_readSum_22 (by decide) (fun c36 => ?_) (fun c36 => ?_)
            · exact (by have w1 := kc_le c36; have w2 := hvlp26_4; have w3 := hvlp26_1; have w4 : (400 : Int32).toInt = 400 := (by decide +kernel); omega : False).elim
            · have h37 := (kc_nle c36)
              have b38 : kb 0 y21 399 := kr_lt1 h37 b28 kc_400 (by decide)
              refine lv_aload_n hx hb dX4_readSum_25 rfl (lv_at hl 4 rfl) ?_
              refine lv_iload_n hx hb dX4_readSum_26 rfl (lv_at hl 5 rfl) ?_
              refine kIG.callW (As := [.int dp]) (rest := []) ⟨hx, hb, hml, hown, hg⟩ (hop l r F23 B24 G25 tx tt hT hI hG dp bdp N (i1) (n1) (s1) ob T pl hk0 (by rw [egv30.symm]; exact hg31) hvlp26_1.2 ⟨(by rw [ez33.symm]; exact hzz33), hvlp26_2.2⟩ ⟨(by show (F23 1637).toInt = ((s1 : Nat) : Int); rw [ezs35.symm]; exact hzzs35), (by omega)⟩ hp5) (cwV 1 hg (kgV wt4_10 wt4_12 wp1_14 wt1_7 wt4_13) rfl rfl rfl (by decide +kernel) ⟨by dsimp only [rmD]; omega, by dsimp only [rmD]; omega⟩) hV hK hP hD hS hA (50) 4 rfl rfl rfl hl.1 rfl (Nat.le_of_ble_eq_true rfl) dX4_readSum_27 ⟨Nat.le_refl _, Nat.le_refl _⟩ (fun v40 u41 H locs hw39 hP hD hS => ?_)
              obtain ⟨f42, a43, g44⟩ := u41
              have hP : va_P D vwCl (xX K r f42 a43 g44 tx) H := hP
              have hD : va_D A (xX K r f42 a43 g44 tx) := hD
              have hI : xI f42 a43 := hw39.2.1
              have hG : gOK K g44.2 tt := hw39.2.2.1
              have eE45 : xEk ([1604, 1605, 1637], [55], []) F23 B24 G25 f42 a43 g44 := hw39.2.2.2.1
              have hE : xEk ([1604, 1605, 1637], [55], []) f a g f42 a43 g44 := xEk_tr hE eE45
              have hk0 : xQ f42 a43 N ob T pl := xQ_c hk0 (eE45.1 1603 rfl) (eE45.1 1606 rfl) ⟨eE45.2.1 56 rfl, eE45.2.1 57 rfl⟩
              obtain ⟨ik46, nk46, hgk46, hlek46, hNk46, hck46⟩ := hw39.2.2.2.2
              rcases hck46 with ⟨hvk46, h3k46, hltk46, hGk46, hcdk46⟩ | ⟨hvk46, hGk46⟩
              · refine k_top (z := 1) hvk46 ?_
                obtain ⟨gv47, egv47⟩ : ∃ z : Int32, z = f42 1604 := ⟨_, rfl⟩
                have hg48 : gv47.toInt = ((ik46 : Nat) : Int) := by rw [egv47]; exact hgk46
                have b49 : kb 0 gv47 400 := kb_pos hNk46 hN4 hg48
                obtain ⟨z50, ez50⟩ : ∃ z : Int32, z = f42 1605 := ⟨_, rfl⟩
                have hzz50 : z50.toInt = ((nk46 : Nat) : Int) := by rw [ez50]; exact h3k46.1
                have b51 : kb 0 z50 50 := ⟨by omega, by have w1 := h3k46.2; omega⟩
                obtain ⟨sk46, wk46, hzk46, hlk46, hqk46, hek46, hrk46⟩ := hcdk46
                obtain ⟨zs52, ezs52⟩ : ∃ z : Int32, z = f42 1637 := ⟨_, rfl⟩
                have hzzs52 : zs52.toInt = ((sk46 : Nat) : Int) := by rw [ezs52]; exact hzk46
                refine lv_if_ne (tgt := 35) hx hb dX4_readSum_30 (by decide) (fun c53 => ?_) (fun c53 => ?_)
                · refine lv_aload_n hx hb dX4_readSum_35 rfl (lv_at hl 4 rfl) ?_
                  refine lv_iload hx hb dX4_readSum_36 (lv_at hl 1 rfl) ?_
                  refine kVG.callW (As := [.int y22]) (rest := []) ⟨hx, hb, hml, hown, hg⟩ (y_emitIfAny l r f42 a43 g44 tx tt hT hI hG y22 b29 (sk46) (by show (f42 1637).toInt = ((sk46 : Nat) : Int); rw [ezs52.symm]; exact hzzs52) (sI1_lt hni hlo hlk46 hNk46 hN4)) (cwV 1 hg (kgV wt4_26 wt4_28 wp2_1 wt1_7 wt4_29) rfl rfl rfl (by decide +kernel) ⟨by dsimp only [rmD]; omega, by dsimp only [rmD]; omega⟩) hV hK hP hD hS hA (50) 4 rfl rfl rfl hl.1 rfl (Nat.le_of_ble_eq_true rfl) dX4_readSum_38 ⟨Nat.le_refl _, Nat.le_refl _⟩ (fun u56 H locs hw54 hP hD hS => ?_)
                  obtain ⟨f57, a58, g59⟩ := u56
                  have hP : va_P D vwCl (xX K r f57 a58 g59 tx) H := hP
                  have hD : va_D A (xX K r f57 a58 g59 tx) := hD
                  have hI : xI f57 a58 := hw54.1
                  have hG : gOK K g59.2 tt := hw54.2.1
                  have eE60 : xEk ([1637], [55], []) f42 a43 g44 f57 a58 g59 := hw54.2.2.1
                  have hE : xEk ([1604, 1605, 1637], [55], []) f a g f57 a58 g59 := xEk_tr hE (xEk_w (by decide +kernel) eE60)
                  have hk0 : xQ f57 a58 N ob T pl := xQ_c hk0 (eE60.1 1603 rfl) (eE60.1 1606 rfl) ⟨eE60.2.1 56 rfl, eE60.2.1 57 rfl⟩
                  obtain ⟨sk61, hzk61, hemk61⟩ := hw54.2.2.2
                  obtain ⟨zs62, ezs62⟩ : ∃ z : Int32, z = f57 1637 := ⟨_, rfl⟩
                  have hzzs62 : zs62.toInt = ((sk61 : Nat) : Int) := by rw [ezs62]; exact hzk61
                  obtain ⟨wo63, hwo63⟩ := sI1_st hni hek46 hrk46 hqk46 hlk46 hemk61
                  have hso63 := hwo63.2.1
                  refine lv_aload_n hx hb dX4_readSum_41 rfl (lv_at hl 4 rfl) ?_
                  refine kIG.callW (As := []) (rest := []) ⟨hx, hb, hml, hown, hg⟩ (y_inHand l r f57 a58 g59 tx tt hT hI hG   N (ik46) ob T pl hk0 (by rw [((eE60.1 1604 rfl).trans egv47.symm)]; exact hg48) hNk46) (cwV 0 hg (kgV wt3_238 wt4_0 wp1_12 wt1_7 wt4_1) rfl rfl rfl (by decide +kernel) ⟨by dsimp only [rmD]; omega, by dsimp only [rmD]; omega⟩) hV hK hP hD hS hA (50) 4 rfl rfl rfl hl.1 rfl (Nat.le_of_ble_eq_true rfl) dX4_readSum_42 ⟨Nat.le_refl _, Nat.le_refl _⟩ (fun v65 u66 H locs hw64 hP hD hS => ?_)
                  have hP : va_P D vwCl (xX K r f57 a58 g59 tx) H := hP
                  have hD : va_D A (xX K r f57 a58 g59 tx) := hD
                  have b67 : kb 0 v65 4000 := kb_eq hw64.2 (hk0.2.2.2.2.2.2 (ik46))
                  refine lv_sipush (v := 3042) hx hb dX4_readSum_45 (by decide) ?_
                  refine lv_icmp_ne (tgt := 56) hx hb dX4_readSum_48 (by decide) (fun c68 => ?_) (fun c68 => ?_)
                  · refine lv_aload_n hx hb dX4_readSum_56 rfl (lv_at hl 4 rfl) ?_
                    refine kIG.callW (As := []) (rest := []) ⟨hx, hb, hml, hown, hg⟩ (y_inHand l r f57 a58 g59 tx tt hT hI hG   N (ik46) ob T pl hk0 (by rw [((eE60.1 1604 rfl).trans egv47.symm)]; exact hg48) hNk46) (cwV 0 hg (kgV wt3_238 wt4_0 wp1_12 wt1_7 wt4_1) rfl rfl rfl (by decide +kernel) ⟨by dsimp only [rmD]; omega, by dsimp only [rmD]; omega⟩) hV hK hP hD hS hA (50) 4 rfl rfl rfl hl.1 rfl (Nat.le_of_ble_eq_true rfl) dX4_readSum_57 ⟨Nat.le_refl _, Nat.le_refl _⟩ (fun v70 u71 H locs hw69 hP hD hS => ?_)
                    have hP : va_P D vwCl (xX K r f57 a58 g59 tx) H := hP
                    have hD : va_D A (xX K r f57 a58 g59 tx) := hD
                    have b72 : kb 0 v70 4000 := kb_eq hw69.2 (hk0.2.2.2.2.2.2 (ik46))
                    refine lv_sipush (v := 3047) hx hb dX4_readSum_60 (by decide) ?_
                    refine lv_icmp_ne (tgt := 71) hx hb dX4_readSum_63 (by decide) (fun c73 => ?_) (fun c73 => ?_)
                    · refine lv_aload_n hx hb dX4_readSum_71 rfl (lv_at hl 4 rfl) ?_
                      refine kIG.callW (As := []) (rest := []) ⟨hx, hb, hml, hown, hg⟩ (y_inHand l r f57 a58 g59 tx tt hT hI hG   N (ik46) ob T pl hk0 (by rw [((eE60.1 1604 rfl).trans egv47.symm)]; exact hg48) hNk46) (cwV 0 hg (kgV wt3_238 wt4_0 wp1_12 wt1_7 wt4_1) rfl rfl rfl (by decide +kernel) ⟨by dsimp only [rmD]; omega, by dsimp only [rmD]; omega⟩) hV hK hP hD hS hA (50) 4 rfl rfl rfl hl.1 rfl (Nat.le_of_ble_eq_true rfl) dX4_readSum_72 ⟨Nat.le_refl _, Nat.le_refl _⟩ (fun v75 u76 H locs hw74 hP hD hS => ?_)
                      have hP : va_P D vwCl (xX K r f57 a58 g59 tx) H := hP
                      have hD : va_D A (xX K r f57 a58 g59 tx) := hD
                      have b77 : kb 0 v75 4000 := kb_eq hw74.2 (hk0.2.2.2.2.2.2 (ik46))
                      refine lv_sipush (v := 3037) hx hb dX4_readSum_75 (by decide) ?_
                      refine lv_icmp_ne (tgt := 86) hx hb dX4_readSum_78 (by decide) (fun c78 => ?_) (fun c78 => ?_)
                      · refine lv_iconst (v := (-1)) hx hb dX4_readSum_86 (by decide) ?_
                        refine lv_istore (lv' := [(4, .int (-1)), (5, .int y21), (3, .int y3), (2, .int y4), (0, .ref (r 50)), (1, .int dp)]) hx hb dX4_readSum_87 hl (by decide) rfl (fun ls hl => ?_)
                        refine lv_iload hx hb dX4_readSum_89 (lv_at hl 0 rfl) ?_
                        refine lv_iconst (v := (-1)) hx hb dX4_readSum_91 (by decide) ?_
                        refine lv_icmp_ne (tgt := 98) hx hb dX4_readSum_92 (by decide) (fun c79 => ?_) (fun c79 => ?_)
                        · exact kb_nsame c79 kc_m1 kc_m1
                        · refine lv_goto (tgt := 114) hx hb dX4_readSum_95 (by decide) ?_
                          have hI80 : pG ob T d 1 i0 n0 (true, ik46, nk46) := xi _ (pi_1 hGk46 (pi_7n (fun q => q.elim (fun q => c68 (hw64.2.trans q)) (fun q => q.elim (fun q => c73 (hw69.2.trans q)) (fun q => c78 (hw74.2.trans q))))))
                          have hT81 : eG ob T d 1 i0 e1 ik46 wo63 := hwo63.2.2.1 _ _ (ei_7n (fun q => q.elim (fun q => c68 (hw64.2.trans q)) (fun q => q.elim (fun q => c73 (hw69.2.trans q)) (fun q => c78 (hw74.2.trans q)))))
                          refine lv_aload_n hx hb dX4_readSum_114 rfl (lv_at hl 4 rfl) ?_
                          refine lv_iload_n hx hb dX4_readSum_115 rfl (lv_at hl 3 rfl) ?_
                          refine kVG.callW (As := [.int y4]) (rest := []) ⟨hx, hb, hml, hown, hg⟩ (y_emitIfAny l r f57 a58 g59 tx tt hT hI hG y4 b11 (sk61) (by show (f57 1637).toInt = ((sk61 : Nat) : Int); rw [ezs62.symm]; exact hzzs62) (sO1_lt hno hsi hwo63.2.1 hNk46 hN4)) (cwV 1 hg (kgV wt4_26 wt4_28 wp2_1 wt1_7 wt4_29) rfl rfl rfl (by decide +kernel) ⟨by dsimp only [rmD]; omega, by dsimp only [rmD]; omega⟩) hV hK hP hD hS hA (50) 4 rfl rfl rfl hl.1 rfl (Nat.le_of_ble_eq_true rfl) dX4_readSum_116 ⟨Nat.le_refl _, Nat.le_refl _⟩ (fun u84 H locs hw82 hP hD hS => ?_)
                          obtain ⟨f85, a86, g87⟩ := u84
                          have hP : va_P D vwCl (xX K r f85 a86 g87 tx) H := hP
                          have hD : va_D A (xX K r f85 a86 g87 tx) := hD
                          have hI : xI f85 a86 := hw82.1
                          have hG : gOK K g87.2 tt := hw82.2.1
                          have eE88 : xEk ([1637], [55], []) f57 a58 g59 f85 a86 g87 := hw82.2.2.1
                          have hE : xEk ([1604, 1605, 1637], [55], []) f a g f85 a86 g87 := xEk_tr hE (xEk_w (by decide +kernel) eE88)
                          have hk0 : xQ f85 a86 N ob T pl := xQ_c hk0 (eE88.1 1603 rfl) (eE88.1 1606 rfl) ⟨eE88.2.1 56 rfl, eE88.2.1 57 rfl⟩
                          obtain ⟨sk89, hzk89, hemk89⟩ := hw82.2.2.2
                          obtain ⟨zs90, ezs90⟩ : ∃ z : Int32, z = f85 1637 := ⟨_, rfl⟩
                          have hzzs90 : zs90.toInt = ((sk89 : Nat) : Int) := by rw [ezs90]; exact hzk89
                          obtain ⟨wo91, hwo91⟩ := sO1_st hno hT81 hwo63.1 (fun p hp => (hwo63.2.2.2 p hp).trans (hpi p hp)) hwo63.2.1 hemk89
                          have hso91 := hwo91.2.1
                          refine lv_aload_n hx hb dX4_readSum_119 rfl (lv_at hl 4 rfl) ?_
                          refine kIG.callW (As := []) (rest := []) ⟨hx, hb, hml, hown, hg⟩ (y_inHand l r f85 a86 g87 tx tt hT hI hG   N (ik46) ob T pl hk0 (by rw [((eE88.1 1604 rfl).trans ((eE60.1 1604 rfl).trans egv47.symm))]; exact hg48) hNk46) (cwV 0 hg (kgV wt3_238 wt4_0 wp1_12 wt1_7 wt4_1) rfl rfl rfl (by decide +kernel) ⟨by dsimp only [rmD]; omega, by dsimp only [rmD]; omega⟩) hV hK hP hD hS hA (50) 4 rfl rfl rfl hl.1 rfl (Nat.le_of_ble_eq_true rfl) dX4_readSum_120 ⟨Nat.le_refl _, Nat.le_refl _⟩ (fun v93 u94 H locs hw92 hP hD hS => ?_)
                          have hP : va_P D vwCl (xX K r f85 a86 g87 tx) H := hP
                          have hD : va_D A (xX K r f85 a86 g87 tx) := hD
                          have b95 : kb 0 v93 4000 := kb_eq hw92.2 (hk0.2.2.2.2.2.2 (ik46))
                          refine lv_sipush (v := 3043) hx hb dX4_readSum_123 (by decide) ?_
                          refine lv_icmp_ne (tgt := 133) hx hb dX4_readSum_126 (by decide) (fun c96 => ?_) (fun c96 => ?_)
                          · refine lv_aload_n hx hb dX4_readSum_133 rfl (lv_at hl 4 rfl) ?_
                            refine kIG.callW (As := []) (rest := []) ⟨hx, hb, hml, hown, hg⟩ (y_inHand l r f85 a86 g87 tx tt hT hI hG   N (ik46) ob T pl hk0 (by rw [((eE88.1 1604 rfl).trans ((eE60.1 1604 rfl).trans egv47.symm))]; exact hg48) hNk46) (cwV 0 hg (kgV wt3_238 wt4_0 wp1_12 wt1_7 wt4_1) rfl rfl rfl (by decide +kernel) ⟨by dsimp only [rmD]; omega, by dsimp only [rmD]; omega⟩) hV hK hP hD hS hA (50) 4 rfl rfl rfl hl.1 rfl (Nat.le_of_ble_eq_true rfl) dX4_readSum_134 ⟨Nat.le_refl _, Nat.le_refl _⟩ (fun v98 u99 H locs hw97 hP hD hS => ?_)
                            have hP : va_P D vwCl (xX K r f85 a86 g87 tx) H := hP
                            have hD : va_D A (xX K r f85 a86 g87 tx) := hD
                            have b100 : kb 0 v98 4000 := kb_eq hw97.2 (hk0.2.2.2.2.2.2 (ik46))
                            refine lv_sipush (v := 3045) hx hb dX4_readSum_137 (by decide) ?_
                            refine lv_icmp_ne (tgt := 148) hx hb dX4_readSum_140 (by decide) (fun c101 => ?_) (fun c101 => ?_)
                            · refine lv_iconst (v := (-1)) hx hb dX4_readSum_148 (by decide) ?_
                              refine lv_istore_n (lv' := [(2, .int (-1)), (4, .int (-1)), (5, .int y21), (3, .int y3), (0, .ref (r 50)), (1, .int dp)]) hx hb dX4_readSum_149 rfl hl (by decide) rfl (fun ls hl => ?_)
                              refine lv_iload_n hx hb dX4_readSum_150 rfl (lv_at hl 0 rfl) ?_
                              refine lv_iconst (v := (-1)) hx hb dX4_readSum_151 (by decide) ?_
                              refine lv_icmp_ne (tgt := 157) hx hb dX4_readSum_152 (by decide) (fun c102 => ?_) (fun c102 => ?_)
                              · exact kb_nsame c102 kc_m1 kc_m1
                              · refine lv_iconst (v := 1) hx hb dX4_readSum_155 (by decide) ?_
                                exact kI_ret (v := 1) hx hb hr hlocks (by decide +kernel) hK hS dX4_readSum_156 (f85, a86, g87) hP hD ⟨(kb_w kc_1 (by decide) (by decide)), hI, hG, hE, ⟨ik46, nk46, (by show (f85 1604).toInt = ((ik46 : Nat) : Int); rw [((eE88.1 1604 rfl).trans ((eE60.1 1604 rfl).trans egv47.symm))]; exact hg48), (Nat.le_trans (Nat.le_trans (Nat.le_trans (Nat.le_trans (Nat.le_add_right _ _) hvlp8_1.1) (Nat.le_add_right _ _)) hvlp26_1.1) hlek46), hNk46, Or.inl ⟨rfl, ⟨(by show (f85 1605).toInt = ((nk46 : Nat) : Int); rw [((eE88.1 1605 rfl).trans ((eE60.1 1605 rfl).trans ez50.symm))]; exact hzz50), h3k46.2⟩, (by omega), xo _ (pi_0 hI80 (pi_6n (fun q => q.elim (fun q => c96 (hw92.2.trans q)) (fun q => c101 (hw97.2.trans q))))), ⟨sk89, wo91, (by show (f85 1637).toInt = ((sk89 : Nat) : Int); rw [ezs90.symm]; exact hzzs90), hwo91.2.1, (fun p hp => (hwo91.2.2.2 p hp).trans (hpo p hp)), hwo91.2.2.1 _ _ (ei_6n (fun q => q.elim (fun q => c96 (hw92.2.trans q)) (fun q => c101 (hw97.2.trans q)))), hwo91.1⟩⟩⟩⟩
                            · have b103 : kb 3045 v98 3045 := kb_eq c101 kc_3045
                              refine lv_bipush (v := 6) hx hb dX4_readSum_143 (by decide) ?_
                              refine lv_goto (tgt := 149) hx hb dX4_readSum_145 (by decide) ?_
                              refine lv_istore_n (lv' := [(2, .int 6), (4, .int (-1)), (5, .int y21), (3, .int y3), (0, .ref (r 50)), (1, .int dp)]) hx hb dX4_readSum_149 rfl hl (by decide) rfl (fun ls hl => ?_)
                              refine lv_iload_n hx hb dX4_readSum_150 rfl (lv_at hl 0 rfl) ?_
                              refine lv_iconst (v := (-1)) hx hb dX4_readSum_151 (by decide) ?_
                              refine lv_icmp_ne (tgt := 157) hx hb dX4_readSum_152 (by decide) (fun c104 => ?_) (fun c104 => ?_)
                              · refine lv_aload_n hx hb dX4_readSum_157 rfl (lv_at hl 4 rfl) ?_
                                refine lv_dup hx hb dX4_readSum_158 rfl ?_
                                have hlt105 : ik46 < N := xQ_lt hk0 (ne_4000 (hw97.2.symm.trans c101) (by decide +kernel))
                                have b106 : kb 0 gv47 399 := kb_pos1 hlt105 hN4 hg48
                                refine va_get (D := D) (ci := 4) (v := .int (f85 1604)) (C := RX4) (T := TX4) (N := 7) hx hb hg inC4 hown hK hP 50 rfl rfl 4 (by decide) (hg _ wt2_69) (fun _ h9 => h9) rfl dX4_readSum_159 ?_
                                refine k_top (z := gv47) ((eE88.1 1604 rfl).trans ((eE60.1 1604 rfl).trans egv47.symm)) ?_
                                refine lv_iconst (v := 1) hx hb dX4_readSum_162 (by decide) ?_
                                refine lv_iadd hx hb dX4_readSum_163 ?_
                                refine lv_topi (fun t107 et107 => ?_)
                                have b108 : kb 1 t107 400 := kb_eq et107 (kb_add b106 kc_1 (by decide) (by decide))
                                have qt107 : t107.toInt = gv47.toInt + 1 := by rw [et107]; exact kt_addc b106 kc_1 (by decide) (by decide)
                                have hg109 : t107.toInt = ((ik46 + 1 : Nat) : Int) := by rw [qt107, hg48]; omega
                                refine va_put (D := D) (ci := 4) (v := .int t107) (ty := .int) (C := RX4) (T := TX4) (N := 7) hx hb hg inC4 tyX4 tyX4_ok nmX4 hown hK hP hD hS 50 rfl rfl 4 (by decide) (hg _ wt2_69) (fun _ h9 => h9) rfl (by decide +kernel) rfl rfl (Nat.le_of_ble_eq_true rfl) dX4_readSum_164 (fun H locs hP hD hS => ?_)
                                have hP : va_P D vwCl (xX K r (upd f85 1604 t107) a86 g87 tx) H := hP
                                have hD : va_D A (xX K r (upd f85 1604 t107) a86 g87 tx) := hD
                                refine k_gen (P := fun z => va_P D vwCl (xX K r z a86 g87 tx) H ∧ va_D A (xX K r z a86 g87 tx) ∧ (xI z a86) ∧ (gOK K g87.2 tt) ∧ (xEk ([1604, 1605, 1637], [55], []) f a g z a86 g87) ∧ (xQ z a86 N ob T pl)) (upd f85 1604 t107) ⟨hP, hD, (xI_f hI (fI_st hI.1 1604 (kb_any _) (by decide) (by decide))), hG, (xEk_f hE rfl), (xQ_f hk0 (by decide) (by decide))⟩ (fun f_110 ef_110 hq => ?_)
                                obtain ⟨hP, hD, hI, hG, hE, hk0⟩ := hq
                                obtain ⟨t111, et111⟩ : ∃ z : Int32, z = y3 + Int32.ofInt 1 := ⟨_, rfl⟩
                                have qt111 : t111.toInt = y3.toInt + 1 := by rw [et111]; exact km_inc b20 (by decide) (by decide)
                                have b112 : kb 1 t111 400 := kb_inc (k := 1) qt111 b20
                                refine lv_iinc (v := t111) (lv' := [(3, .int t111), (2, .int 6), (4, .int (-1)), (5, .int y21), (0, .ref (r 50)), (1, .int dp)]) hx hb dX4_readSum_167 hl (k := 3) rfl et111.symm (by decide) rfl (fun ls hl => ?_)
                                refine lv_goto (tgt := 4) hx hb dX4_readSum_170 (by decide) ?_
                                exact ihlp8 (ik46 + 1) (nk46) (ko + 1) (sk89) f_110 a86 g87 _ _ _ t111 6 (km_up hmlp8 qt111) hI hG hE hk0 (kb_w b112 (by decide) (by decide)) (kb_w kc_6 (by decide) (by decide)) (by rw [(show f_110 1604 = t107 from by rw [← ef_110]; rfl)]; exact hg109) (⟨by have w1 := hvlp8_1.1; omega, hlt105⟩) (⟨(by rw [((show f_110 1605 = f85 1605 from by rw [← ef_110]; rfl).trans ((eE88.1 1605 rfl).trans ((eE60.1 1605 rfl).trans ez50.symm)))]; exact hzz50), h3k46.2⟩) (fun r h => xo r (pi_0 hI80 (pi_6y (Or.inr (hw97.2.symm.trans c101)) h))) (by have w1 := hvlp8_4; omega) (by show (f_110 1637).toInt = ((sk89 : Nat) : Int); rw [((show f_110 1637 = f85 1637 from by rw [← ef_110]; rfl).trans ezs90.symm)]; exact hzzs90) (Or.inr ⟨by decide +kernel, by have w1 := hwo91.2.1; omega, ik46, wo91, rfl, (Or.inr (hw97.2.symm.trans c101)), by rw [(hw97.2.symm.trans c101)]; decide +kernel, hwo91.1, hwo91.2.2.1⟩) (fun p hp => (hwo91.2.2.2 p hp).trans (hpo p hp)) hP hD hS (lv_sub hl [0, 1, 4, 5] rfl)
                              · exact kb_dj c104 kc_6 kc_m1 (by decide)
                          · have b113 : kb 3043 v93 3043 := kb_eq c96 kc_3043
                            refine lv_iconst (v := 5) hx hb dX4_readSum_129 (by decide) ?_
                            refine lv_goto (tgt := 149) hx hb dX4_readSum_130 (by decide) ?_
                            refine lv_istore_n (lv' := [(2, .int 5), (4, .int (-1)), (5, .int y21), (3, .int y3), (0, .ref (r 50)), (1, .int dp)]) hx hb dX4_readSum_149 rfl hl (by decide) rfl (fun ls hl => ?_)
                            refine lv_iload_n hx hb dX4_readSum_150 rfl (lv_at hl 0 rfl) ?_
                            refine lv_iconst (v := (-1)) hx hb dX4_readSum_151 (by decide) ?_
                            refine lv_icmp_ne (tgt := 157) hx hb dX4_readSum_152 (by decide) (fun c114 => ?_) (fun c114 => ?_)
                            · refine lv_aload_n hx hb dX4_readSum_157 rfl (lv_at hl 4 rfl) ?_
                              refine lv_dup hx hb dX4_readSum_158 rfl ?_
                              have hlt115 : ik46 < N := xQ_lt hk0 (ne_4000 (hw92.2.symm.trans c96) (by decide +kernel))
                              have b116 : kb 0 gv47 399 := kb_pos1 hlt115 hN4 hg48
                              refine va_get (D := D) (ci := 4) (v := .int (f85 1604)) (C := RX4) (T := TX4) (N := 7) hx hb hg inC4 hown hK hP 50 rfl rfl 4 (by decide) (hg _ wt2_69) (fun _ h9 => h9) rfl dX4_readSum_159 ?_
                              refine k_top (z := gv47) ((eE88.1 1604 rfl).trans ((eE60.1 1604 rfl).trans egv47.symm)) ?_
                              refine lv_iconst (v := 1) hx hb dX4_readSum_162 (by decide) ?_
                              refine lv_iadd hx hb dX4_readSum_163 ?_
                              refine lv_topi (fun t117 et117 => ?_)
                              have b118 : kb 1 t117 400 := kb_eq et117 (kb_add b116 kc_1 (by decide) (by decide))
                              have qt117 : t117.toInt = gv47.toInt + 1 := by rw [et117]; exact kt_addc b116 kc_1 (by decide) (by decide)
                              have hg119 : t117.toInt = ((ik46 + 1 : Nat) : Int) := by rw [qt117, hg48]; omega
                              refine va_put (D := D) (ci := 4) (v := .int t117) (ty := .int) (C := RX4) (T := TX4) (N := 7) hx hb hg inC4 tyX4 tyX4_ok nmX4 hown hK hP hD hS 50 rfl rfl 4 (by decide) (hg _ wt2_69) (fun _ h9 => h9) rfl (by decide +kernel) rfl rfl (Nat.le_of_ble_eq_true rfl) dX4_readSum_164 (fun H locs hP hD hS => ?_)
                              have hP : va_P D vwCl (xX K r (upd f85 1604 t117) a86 g87 tx) H := hP
                              have hD : va_D A (xX K r (upd f85 1604 t117) a86 g87 tx) := hD
                              refine k_gen (P := fun z => va_P D vwCl (xX K r z a86 g87 tx) H ∧ va_D A (xX K r z a86 g87 tx) ∧ (xI z a86) ∧ (gOK K g87.2 tt) ∧ (xEk ([1604, 1605, 1637], [55], []) f a g z a86 g87) ∧ (xQ z a86 N ob T pl)) (upd f85 1604 t117) ⟨hP, hD, (xI_f hI (fI_st hI.1 1604 (kb_any _) (by decide) (by decide))), hG, (xEk_f hE rfl), (xQ_f hk0 (by decide) (by decide))⟩ (fun f_120 ef_120 hq => ?_)
                              obtain ⟨hP, hD, hI, hG, hE, hk0⟩ := hq
                              obtain ⟨t121, et121⟩ : ∃ z : Int32, z = y3 + Int32.ofInt 1 := ⟨_, rfl⟩
                              have qt121 : t121.toInt = y3.toInt + 1 := by rw [et121]; exact km_inc b20 (by decide) (by decide)
                              have b122 : kb 1 t121 400 := kb_inc (k := 1) qt121 b20
                              refine lv_iinc (v := t121) (lv' := [(3, .int t121), (2, .int 5), (4, .int (-1)), (5, .int y21), (0, .ref (r 50)), (1, .int dp)]) hx hb dX4_readSum_167 hl (k := 3) rfl et121.symm (by decide) rfl (fun ls hl => ?_)
                              refine lv_goto (tgt := 4) hx hb dX4_readSum_170 (by decide) ?_
                              exact ihlp8 (ik46 + 1) (nk46) (ko + 1) (sk89) f_120 a86 g87 _ _ _ t121 5 (km_up hmlp8 qt121) hI hG hE hk0 (kb_w b122 (by decide) (by decide)) (kb_w kc_5 (by decide) (by decide)) (by rw [(show f_120 1604 = t117 from by rw [← ef_120]; rfl)]; exact hg119) (⟨by have w1 := hvlp8_1.1; omega, hlt115⟩) (⟨(by rw [((show f_120 1605 = f85 1605 from by rw [← ef_120]; rfl).trans ((eE88.1 1605 rfl).trans ((eE60.1 1605 rfl).trans ez50.symm)))]; exact hzz50), h3k46.2⟩) (fun r h => xo r (pi_0 hI80 (pi_6y (Or.inl (hw92.2.symm.trans c96)) h))) (by have w1 := hvlp8_4; omega) (by show (f_120 1637).toInt = ((sk89 : Nat) : Int); rw [((show f_120 1637 = f85 1637 from by rw [← ef_120]; rfl).trans ezs90.symm)]; exact hzzs90) (Or.inr ⟨by decide +kernel, by have w1 := hwo91.2.1; omega, ik46, wo91, rfl, (Or.inl (hw92.2.symm.trans c96)), by rw [(hw92.2.symm.trans c96)]; decide +kernel, hwo91.1, hwo91.2.2.1⟩) (fun p hp => (hwo91.2.2.2 p hp).trans (hpo p hp)) hP hD hS (lv_sub hl [0, 1, 4, 5] rfl)
                            · exact kb_dj c114 kc_5 kc_m1 (by decide)
                      · have b123 : kb 3037 v75 3037 := kb_eq c78 kc_3037
                        refine lv_bipush (v := 9) hx hb dX4_readSum_81 (by decide) ?_
                        refine lv_goto (tgt := 87) hx hb dX4_readSum_83 (by decide) ?_
                        refine lv_istore (lv' := [(4, .int 9), (5, .int y21), (3, .int y3), (2, .int y4), (0, .ref (r 50)), (1, .int dp)]) hx hb dX4_readSum_87 hl (by decide) rfl (fun ls hl => ?_)
                        refine lv_iload hx hb dX4_readSum_89 (lv_at hl 0 rfl) ?_
                        refine lv_iconst (v := (-1)) hx hb dX4_readSum_91 (by decide) ?_
                        refine lv_icmp_ne (tgt := 98) hx hb dX4_readSum_92 (by decide) (fun c124 => ?_) (fun c124 => ?_)
                        · refine lv_aload_n hx hb dX4_readSum_98 rfl (lv_at hl 4 rfl) ?_
                          refine lv_dup hx hb dX4_readSum_99 rfl ?_
                          have hlt125 : ik46 < N := xQ_lt hk0 (ne_4000 (hw74.2.symm.trans c78) (by decide +kernel))
                          have b126 : kb 0 gv47 399 := kb_pos1 hlt125 hN4 hg48
                          refine va_get (D := D) (ci := 4) (v := .int (f57 1604)) (C := RX4) (T := TX4) (N := 7) hx hb hg inC4 hown hK hP 50 rfl rfl 4 (by decide) (hg _ wt2_69) (fun _ h9 => h9) rfl dX4_readSum_100 ?_
                          refine k_top (z := gv47) ((eE60.1 1604 rfl).trans egv47.symm) ?_
                          refine lv_iconst (v := 1) hx hb dX4_readSum_103 (by decide) ?_
                          refine lv_iadd hx hb dX4_readSum_104 ?_
                          refine lv_topi (fun t127 et127 => ?_)
                          have b128 : kb 1 t127 400 := kb_eq et127 (kb_add b126 kc_1 (by decide) (by decide))
                          have qt127 : t127.toInt = gv47.toInt + 1 := by rw [et127]; exact kt_addc b126 kc_1 (by decide) (by decide)
                          have hg129 : t127.toInt = ((ik46 + 1 : Nat) : Int) := by rw [qt127, hg48]; omega
                          refine va_put (D := D) (ci := 4) (v := .int t127) (ty := .int) (C := RX4) (T := TX4) (N := 7) hx hb hg inC4 tyX4 tyX4_ok nmX4 hown hK hP hD hS 50 rfl rfl 4 (by decide) (hg _ wt2_69) (fun _ h9 => h9) rfl (by decide +kernel) rfl rfl (Nat.le_of_ble_eq_true rfl) dX4_readSum_105 (fun H locs hP hD hS => ?_)
                          have hP : va_P D vwCl (xX K r (upd f57 1604 t127) a58 g59 tx) H := hP
                          have hD : va_D A (xX K r (upd f57 1604 t127) a58 g59 tx) := hD
                          refine k_gen (P := fun z => va_P D vwCl (xX K r z a58 g59 tx) H ∧ va_D A (xX K r z a58 g59 tx) ∧ (xI z a58) ∧ (gOK K g59.2 tt) ∧ (xEk ([1604, 1605, 1637], [55], []) f a g z a58 g59) ∧ (xQ z a58 N ob T pl)) (upd f57 1604 t127) ⟨hP, hD, (xI_f hI (fI_st hI.1 1604 (kb_any _) (by decide) (by decide))), hG, (xEk_f hE rfl), (xQ_f hk0 (by decide) (by decide))⟩ (fun f_130 ef_130 hq => ?_)
                          obtain ⟨hP, hD, hI, hG, hE, hk0⟩ := hq
                          obtain ⟨t131, et131⟩ : ∃ z : Int32, z = y21 + Int32.ofInt 1 := ⟨_, rfl⟩
                          have qt131 : t131.toInt = y21.toInt + 1 := by rw [et131]; exact km_inc b38 (by decide) (by decide)
                          have b132 : kb 1 t131 400 := kb_inc (k := 1) qt131 b38
                          refine lv_iinc (v := t131) (lv' := [(5, .int t131), (4, .int 9), (3, .int y3), (2, .int y4), (0, .ref (r 50)), (1, .int dp)]) hx hb dX4_readSum_108 hl (k := 1) rfl et131.symm (by decide) rfl (fun ls hl => ?_)
                          refine lv_goto (tgt := 17) hx hb dX4_readSum_111 (by decide) ?_
                          exact ihlp26 (ik46 + 1) (nk46) (ki + 1) (sk61) f_130 a58 g59 _ _ _ t131 9 (km_up hmlp26 qt131) hI hG hE hk0 (kb_w b132 (by decide) (by decide)) (kb_w kc_9 (by decide) (by decide)) (by rw [(show f_130 1604 = t127 from by rw [← ef_130]; rfl)]; exact hg129) (⟨by have w1 := hvlp26_1.1; omega, hlt125⟩) (⟨(by rw [((show f_130 1605 = f57 1605 from by rw [← ef_130]; rfl).trans ((eE60.1 1605 rfl).trans ez50.symm))]; exact hzz50), h3k46.2⟩) (fun r h => xi r (pi_1 hGk46 (pi_7y (Or.inr (Or.inr (hw74.2.symm.trans c78))) h))) (by have w1 := hvlp26_4; omega) (by show (f_130 1637).toInt = ((sk61 : Nat) : Int); rw [((show f_130 1637 = f57 1637 from by rw [← ef_130]; rfl).trans ezs62.symm)]; exact hzzs62) (Or.inr ⟨by decide +kernel, by have w1 := hwo63.2.1; omega, ik46, wo63, rfl, (Or.inr (Or.inr (hw74.2.symm.trans c78))), by rw [(hw74.2.symm.trans c78)]; decide +kernel, hwo63.1, hwo63.2.2.1⟩) (fun p hp => (hwo63.2.2.2 p hp).trans (hpi p hp)) hP hD hS (lv_sub hl [0, 1, 2, 3, 4, 5] rfl)
                        · exact kb_dj c124 kc_9 kc_m1 (by decide)
                    · have b133 : kb 3047 v70 3047 := kb_eq c73 kc_3047
                      refine lv_bipush (v := 8) hx hb dX4_readSum_66 (by decide) ?_
                      refine lv_goto (tgt := 87) hx hb dX4_readSum_68 (by decide) ?_
                      refine lv_istore (lv' := [(4, .int 8), (5, .int y21), (3, .int y3), (2, .int y4), (0, .ref (r 50)), (1, .int dp)]) hx hb dX4_readSum_87 hl (by decide) rfl (fun ls hl => ?_)
                      refine lv_iload hx hb dX4_readSum_89 (lv_at hl 0 rfl) ?_
                      refine lv_iconst (v := (-1)) hx hb dX4_readSum_91 (by decide) ?_
                      refine lv_icmp_ne (tgt := 98) hx hb dX4_readSum_92 (by decide) (fun c134 => ?_) (fun c134 => ?_)
                      · refine lv_aload_n hx hb dX4_readSum_98 rfl (lv_at hl 4 rfl) ?_
                        refine lv_dup hx hb dX4_readSum_99 rfl ?_
                        have hlt135 : ik46 < N := xQ_lt hk0 (ne_4000 (hw69.2.symm.trans c73) (by decide +kernel))
                        have b136 : kb 0 gv47 399 := kb_pos1 hlt135 hN4 hg48
                        refine va_get (D := D) (ci := 4) (v := .int (f57 1604)) (C := RX4) (T := TX4) (N := 7) hx hb hg inC4 hown hK hP 50 rfl rfl 4 (by decide) (hg _ wt2_69) (fun _ h9 => h9) rfl dX4_readSum_100 ?_
                        refine k_top (z := gv47) ((eE60.1 1604 rfl).trans egv47.symm) ?_
                        refine lv_iconst (v := 1) hx hb dX4_readSum_103 (by decide) ?_
                        refine lv_iadd hx hb dX4_readSum_104 ?_
                        refine lv_topi (fun t137 et137 => ?_)
                        have b138 : kb 1 t137 400 := kb_eq et137 (kb_add b136 kc_1 (by decide) (by decide))
                        have qt137 : t137.toInt = gv47.toInt + 1 := by rw [et137]; exact kt_addc b136 kc_1 (by decide) (by decide)
                        have hg139 : t137.toInt = ((ik46 + 1 : Nat) : Int) := by rw [qt137, hg48]; omega
                        refine va_put (D := D) (ci := 4) (v := .int t137) (ty := .int) (C := RX4) (T := TX4) (N := 7) hx hb hg inC4 tyX4 tyX4_ok nmX4 hown hK hP hD hS 50 rfl rfl 4 (by decide) (hg _ wt2_69) (fun _ h9 => h9) rfl (by decide +kernel) rfl rfl (Nat.le_of_ble_eq_true rfl) dX4_readSum_105 (fun H locs hP hD hS => ?_)
                        have hP : va_P D vwCl (xX K r (upd f57 1604 t137) a58 g59 tx) H := hP
                        have hD : va_D A (xX K r (upd f57 1604 t137) a58 g59 tx) := hD
                        refine k_gen (P := fun z => va_P D vwCl (xX K r z a58 g59 tx) H ∧ va_D A (xX K r z a58 g59 tx) ∧ (xI z a58) ∧ (gOK K g59.2 tt) ∧ (xEk ([1604, 1605, 1637], [55], []) f a g z a58 g59) ∧ (xQ z a58 N ob T pl)) (upd f57 1604 t137) ⟨hP, hD, (xI_f hI (fI_st hI.1 1604 (kb_any _) (by decide) (by decide))), hG, (xEk_f hE rfl), (xQ_f hk0 (by decide) (by decide))⟩ (fun f_140 ef_140 hq => ?_)
                        obtain ⟨hP, hD, hI, hG, hE, hk0⟩ := hq
                        obtain ⟨t141, et141⟩ : ∃ z : Int32, z = y21 + Int32.ofInt 1 := ⟨_, rfl⟩
                        have qt141 : t141.toInt = y21.toInt + 1 := by rw [et141]; exact km_inc b38 (by decide) (by decide)
                        have b142 : kb 1 t141 400 := kb_inc (k := 1) qt141 b38
                        refine lv_iinc (v := t141) (lv' := [(5, .int t141), (4, .int 8), (3, .int y3), (2, .int y4), (0, .ref (r 50)), (1, .int dp)]) hx hb dX4_readSum_108 hl (k := 1) rfl et141.symm (by decide) rfl (fun ls hl => ?_)
                        refine lv_goto (tgt := 17) hx hb dX4_readSum_111 (by decide) ?_
                        exact ihlp26 (ik46 + 1) (nk46) (ki + 1) (sk61) f_140 a58 g59 _ _ _ t141 8 (km_up hmlp26 qt141) hI hG hE hk0 (kb_w b142 (by decide) (by decide)) (kb_w kc_8 (by decide) (by decide)) (by rw [(show f_140 1604 = t137 from by rw [← ef_140]; rfl)]; exact hg139) (⟨by have w1 := hvlp26_1.1; omega, hlt135⟩) (⟨(by rw [((show f_140 1605 = f57 1605 from by rw [← ef_140]; rfl).trans ((eE60.1 1605 rfl).trans ez50.symm))]; exact hzz50), h3k46.2⟩) (fun r h => xi r (pi_1 hGk46 (pi_7y (Or.inr (Or.inl (hw69.2.symm.trans c73))) h))) (by have w1 := hvlp26_4; omega) (by show (f_140 1637).toInt = ((sk61 : Nat) : Int); rw [((show f_140 1637 = f57 1637 from by rw [← ef_140]; rfl).trans ezs62.symm)]; exact hzzs62) (Or.inr ⟨by decide +kernel, by have w1 := hwo63.2.1; omega, ik46, wo63, rfl, (Or.inr (Or.inl (hw69.2.symm.trans c73))), by rw [(hw69.2.symm.trans c73)]; decide +kernel, hwo63.1, hwo63.2.2.1⟩) (fun p hp => (hwo63.2.2.2 p hp).trans (hpi p hp)) hP hD hS (lv_sub hl [0, 1, 2, 3, 4, 5] rfl)
                      · exact kb_dj c134 kc_8 kc_m1 (by decide)
                  · have b143 : kb 3042 v65 3042 := kb_eq c68 kc_3042
                    refine lv_bipush (v := 7) hx hb dX4_readSum_51 (by decide) ?_
                    refine lv_goto (tgt := 87) hx hb dX4_readSum_53 (by decide) ?_
                    refine lv_istore (lv' := [(4, .int 7), (5, .int y21), (3, .int y3), (2, .int y4), (0, .ref (r 50)), (1, .int dp)]) hx hb dX4_readSum_87 hl (by decide) rfl (fun ls hl => ?_)
                    refine lv_iload hx hb dX4_readSum_89 (lv_at hl 0 rfl) ?_
                    refine lv_iconst (v := (-1)) hx hb dX4_readSum_91 (by decide) ?_
                    refine lv_icmp_ne (tgt := 98) hx hb dX4_readSum_92 (by decide) (fun c144 => ?_) (fun c144 => ?_)
                    · refine lv_aload_n hx hb dX4_readSum_98 rfl (lv_at hl 4 rfl) ?_
                      refine lv_dup hx hb dX4_readSum_99 rfl ?_
                      have hlt145 : ik46 < N := xQ_lt hk0 (ne_4000 (hw64.2.symm.trans c68) (by decide +kernel))
                      have b146 : kb 0 gv47 399 := kb_pos1 hlt145 hN4 hg48
                      refine va_get (D := D) (ci := 4) (v := .int (f57 1604)) (C := RX4) (T := TX4) (N := 7) hx hb hg inC4 hown hK hP 50 rfl rfl 4 (by decide) (hg _ wt2_69) (fun _ h9 => h9) rfl dX4_readSum_100 ?_
                      refine k_top (z := gv47) ((eE60.1 1604 rfl).trans egv47.symm) ?_
                      refine lv_iconst (v := 1) hx hb dX4_readSum_103 (by decide) ?_
                      refine lv_iadd hx hb dX4_readSum_104 ?_
                      refine lv_topi (fun t147 et147 => ?_)
                      have b148 : kb 1 t147 400 := kb_eq et147 (kb_add b146 kc_1 (by decide) (by decide))
                      have qt147 : t147.toInt = gv47.toInt + 1 := by rw [et147]; exact kt_addc b146 kc_1 (by decide) (by decide)
                      have hg149 : t147.toInt = ((ik46 + 1 : Nat) : Int) := by rw [qt147, hg48]; omega
                      refine va_put (D := D) (ci := 4) (v := .int t147) (ty := .int) (C := RX4) (T := TX4) (N := 7) hx hb hg inC4 tyX4 tyX4_ok nmX4 hown hK hP hD hS 50 rfl rfl 4 (by decide) (hg _ wt2_69) (fun _ h9 => h9) rfl (by decide +kernel) rfl rfl (Nat.le_of_ble_eq_true rfl) dX4_readSum_105 (fun H locs hP hD hS => ?_)
                      have hP : va_P D vwCl (xX K r (upd f57 1604 t147) a58 g59 tx) H := hP
                      have hD : va_D A (xX K r (upd f57 1604 t147) a58 g59 tx) := hD
                      refine k_gen (P := fun z => va_P D vwCl (xX K r z a58 g59 tx) H ∧ va_D A (xX K r z a58 g59 tx) ∧ (xI z a58) ∧ (gOK K g59.2 tt) ∧ (xEk ([1604, 1605, 1637], [55], []) f a g z a58 g59) ∧ (xQ z a58 N ob T pl)) (upd f57 1604 t147) ⟨hP, hD, (xI_f hI (fI_st hI.1 1604 (kb_any _) (by decide) (by decide))), hG, (xEk_f hE rfl), (xQ_f hk0 (by decide) (by decide))⟩ (fun f_150 ef_150 hq => ?_)
                      obtain ⟨hP, hD, hI, hG, hE, hk0⟩ := hq
                      obtain ⟨t151, et151⟩ : ∃ z : Int32, z = y21 + Int32.ofInt 1 := ⟨_, rfl⟩
                      have qt151 : t151.toInt = y21.toInt + 1 := by rw [et151]; exact km_inc b38 (by decide) (by decide)
                      have b152 : kb 1 t151 400 := kb_inc (k := 1) qt151 b38
                      refine lv_iinc (v := t151) (lv' := [(5, .int t151), (4, .int 7), (3, .int y3), (2, .int y4), (0, .ref (r 50)), (1, .int dp)]) hx hb dX4_readSum_108 hl (k := 1) rfl et151.symm (by decide) rfl (fun ls hl => ?_)
                      refine lv_goto (tgt := 17) hx hb dX4_readSum_111 (by decide) ?_
                      exact ihlp26 (ik46 + 1) (nk46) (ki + 1) (sk61) f_150 a58 g59 _ _ _ t151 7 (km_up hmlp26 qt151) hI hG hE hk0 (kb_w b152 (by decide) (by decide)) (kb_w kc_7 (by decide) (by decide)) (by rw [(show f_150 1604 = t147 from by rw [← ef_150]; rfl)]; exact hg149) (⟨by have w1 := hvlp26_1.1; omega, hlt145⟩) (⟨(by rw [((show f_150 1605 = f57 1605 from by rw [← ef_150]; rfl).trans ((eE60.1 1605 rfl).trans ez50.symm))]; exact hzz50), h3k46.2⟩) (fun r h => xi r (pi_1 hGk46 (pi_7y (Or.inl (hw64.2.symm.trans c68)) h))) (by have w1 := hvlp26_4; omega) (by show (f_150 1637).toInt = ((sk61 : Nat) : Int); rw [((show f_150 1637 = f57 1637 from by rw [← ef_150]; rfl).trans ezs62.symm)]; exact hzzs62) (Or.inr ⟨by decide +kernel, by have w1 := hwo63.2.1; omega, ik46, wo63, rfl, (Or.inl (hw64.2.symm.trans c68)), by rw [(hw64.2.symm.trans c68)]; decide +kernel, hwo63.1, hwo63.2.2.1⟩) (fun p hp => (hwo63.2.2.2 p hp).trans (hpi p hp)) hP hD hS (lv_sub hl [0, 1, 2, 3, 4, 5] rfl)
                    · exact kb_dj c144 kc_7 kc_m1 (by decide)
                · exact kb_dj c53 kc_1 kc_0 (by decide)
              · refine k_top (z := 0) hvk46 ?_
                obtain ⟨gv153, egv153⟩ : ∃ z : Int32, z = f42 1604 := ⟨_, rfl⟩
                have hg154 : gv153.toInt = ((ik46 : Nat) : Int) := by rw [egv153]; exact hgk46
                have b155 : kb 0 gv153 400 := kb_pos hNk46 hN4 hg154
                refine lv_if_ne (tgt := 35) hx hb dX4_readSum_30 (by decide) (fun c156 => ?_) (fun c156 => ?_)
                · exact kb_nsame c156 kc_0 kc_0
                · refine lv_iconst (v := 0) hx hb dX4_readSum_33 (by decide) ?_
                  exact kI_ret (v := 0) hx hb hr hlocks (by decide +kernel) hK hS dX4_readSum_34 (f42, a43, g44) hP hD ⟨(kb_w kc_0 (by decide) (by decide)), hI, hG, hE, ⟨ik46, 0, (by show (f42 1604).toInt = ((ik46 : Nat) : Int); rw [egv153.symm]; exact hg154), (Nat.le_trans (Nat.le_trans (Nat.le_trans (Nat.le_trans (Nat.le_add_right _ _) hvlp8_1.1) (Nat.le_add_right _ _)) hvlp26_1.1) hlek46), hNk46, Or.inr ⟨rfl, xo _ (pi_0f (xi _ (pi_1f hGk46)))⟩⟩⟩
        exact lp26 (401) (i0) (n0) 0 (so) F5 B6 G7 _ _ _ 0 (-1) (by have h1 := (kc_0); unfold kb at h1; omega) hI hG hE hk0 (kb_w kc_0 (by decide) (by decide)) (kb_w kc_m1 (by decide) (by decide)) (by rw [egv12.symm]; exact hg13) (⟨by omega, hvlp8_1.2⟩) (⟨(by rw [ez15.symm]; exact hzz15), hvlp8_2.2⟩) (fun r h => h) (by decide +kernel) (by show (F5 1637).toInt = ((so : Nat) : Int); rw [ezs17.symm]; exact hzzs17) (Or.inl ⟨rfl, rfl, rfl⟩) (fun p hp => rfl) hP hD hS (lv_sub hl [0, 1, 2, 3, 4, 5] rfl)
  exact lp8 (401) (i) (n) 0 (s0) f a g _ _ _ 0 (-1) (by have h1 := (kc_0); unfold kb at h1; omega) hI hG hE hk0 (kb_w kc_0 (by decide) (by decide)) (kb_w kc_m1 (by decide) (by decide)) (by rw [ecz4.symm]; exact hg0) (⟨by omega, hp2⟩) (⟨(by rw [ecz5.symm]; exact hn5), hl5⟩) (fun r h => h) (by decide +kernel) (by show (f 1637).toInt = ((s0 : Nat) : Int); rw [ecs.symm]; exact hcs) (Or.inl ⟨rfl, rfl, rfl⟩) (fun p hp => rfl) hP hD hS (lv_sub hl [0, 1, 2, 3] rfl)
set_option maxHeartbeats 4000000 in
set_option maxRecDepth 100000 in
theorem y_readTest (d : Nat) (hpl : eXPlain d) (l : Launch) {D : va_G} {K : Nat → ClassId} (r : Nat → Nat) (f : Nat → Int32) (a : Nat → Nat → Int32) (g : xG) (tx tt : va_W) (hT : ∀ c ∈ tt, c ∈ tx) (hI : xI f a) (hG : gOK K g.2 tt) (dp : Int32) (bdp : kb 0 dp 8) (N i n s0 : Nat) (ob : Bool) (T pl : Nat → Int32) (hp0 : xQ f a N ob T pl) (hp1 : (f 1604).toInt = (i : Int)) (hp2 : i ≤ N) (hp3 : (f 1605).toInt = (n : Int) ∧ n ≤ 50) (hp4 : (f 1637).toInt = (s0 : Int) ∧ s0 ≤ i) (hp5 : dp.toInt + (d : Int) = 8) : kIG l yX4_readTest (Cond.code yX4_readTest cX4_readTest 6 (some .boolean) :: kG) (rmD (2 * d + 10) 0 0) D K [.ref (r 50), .int dp] (xX K r f a g tx) (fun v (u : xS) => kb 0 v 1 ∧ xI u.1 u.2.1 ∧ gOK K u.2.2.2 tt ∧ xEk ([1604, 1605, 1637], [55], []) f a g u.1 u.2.1 u.2.2 ∧ (∃ i2 n2 : Nat, (u.1 1604).toInt = (i2 : Int) ∧ i ≤ i2 ∧ i2 ≤ N ∧ ((v = 1 ∧ ((u.1 1605).toInt = (n2 : Int) ∧ n2 ≤ 50) ∧ i < i2 ∧ pG ob T d 3 i n (true, i2, n2) ∧ cdP ob T d 3 i i2 s0 (a 55) (u.2.1 55) (u.1 1637) (2 * d + 4)) ∨ (v = 0 ∧ pG ob T d 3 i n (false, i2, 0))))) (fun u => xX K r u.1 u.2.1 u.2.2 tx) 0 0 := by
  refine kIE.of (cc := cX4_readTest) (maxL := 6) (ret := (some .boolean)) (by decide) rfl (Nat.le_of_ble_eq_true rfl) ?_
  intro p e s m below meth c A hx hb hr hml hown hts hlocks hnm hK hP hD hS hA hV ls hl
  have hE : xEk ([1604, 1605, 1637], [55], []) f a g f a g := xEk_rf
  have hg : ∀ w ∈ kG, w.before _ s = true := fun w h => hts w (List.mem_cons_of_mem _ h)
  have hown : s.vm.findClass RX4 = some m.cls := hown
  have hl : lv_has ls 6 [(0, .ref (r 50)), (1, .int dp)] := hl
  have hk0 := hp0
  have hN4 := hp0.2.1
  obtain ⟨cz4, ecz4⟩ : ∃ z : Int32, z = f 1604 := ⟨_, rfl⟩
  have hg0 : cz4.toInt = (i : Int) := by rw [ecz4]; exact hp1
  have b1 : kb 0 cz4 400 := kb_pos hp2 hN4 hg0
  obtain ⟨cz5, ecz5⟩ : ∃ z : Int32, z = f 1605 := ⟨_, rfl⟩
  have hn5 : cz5.toInt = (n : Int) := by rw [ecz5]; exact hp3.1
  have hl5 := hp3.2
  have b2 : kb 0 cz5 50 := ⟨by omega, by omega⟩
  obtain ⟨cs, ecs⟩ : ∃ z : Int32, z = f 1637 := ⟨_, rfl⟩
  have hcs : cs.toInt = (s0 : Int) := by rw [ecs]; exact hp4.1
  have hsi := hp4.2
  refine lv_iconst (v := (-1)) hx hb dX4_readTest_0 (by decide) ?_
  refine lv_istore_n (lv' := [(2, .int (-1)), (0, .ref (r 50)), (1, .int dp)]) hx hb dX4_readTest_1 rfl hl (by decide) rfl (fun ls hl => ?_)
  refine lv_iconst (v := 0) hx hb dX4_readTest_2 (by decide) ?_
  refine lv_istore_n (lv' := [(3, .int 0), (2, .int (-1)), (0, .ref (r 50)), (1, .int dp)]) hx hb dX4_readTest_3 rfl hl (by decide) rfl (fun ls hl => ?_)
  have lp8 : ∀ (n9 : Nat) (i0 : Nat) (n0 : Nat) (ko : Nat) (so : Nat) (F5 : Nat → Int32) (B6 : Nat → Nat → Int32) (G7 : xG) (H : Heap) (locs : List Loc) (ls : Array Slot) (y3 : Int32) (y4 : Int32), (400 < y3.toInt + (n9 : Int)) → (xI F5 B6) → (gOK K G7.2 tt) → (xEk ([1604, 1605, 1637], [55], []) f a g F5 B6 G7) → (xQ F5 B6 N ob T pl) → (kb 0 y3 400) → ((F5 1604).toInt = (i0 : Int)) → (i + 2 * ko ≤ i0 ∧ i0 ≤ N) → ((F5 1605).toInt = (n0 : Int) ∧ n0 ≤ 50) → (∀ r, pG ob T d 3 i0 n0 r → pG ob T d 3 i n r) → (y3.toInt = (ko : Int)) → ((F5 1637).toInt = (so : Int)) → (tO1 ob T d (B6 55) i s0 i0 so y4) → (∀ p, p < s0 → B6 55 p = a 55 p) → va_P D vwCl (xX K r F5 B6 G7 tx) H → va_D A (xX K r F5 B6 G7 tx) → va_S A s.heap H locs → lv_has ls 6 [(3, .int y3), (2, .int y4), (0, .ref (r 50)), (1, .int dp)] → W p l e (rmD (2 * d + 10) 0 0) s m ([.ref (r 50), .int dp] : List Value).toArray below meth c H locs 0 0 (kQi D (tysK K) (fun v (u : xS) => kb 0 v 1 ∧ xI u.1 u.2.1 ∧ gOK K u.2.2.2 tt ∧ xEk ([1604, 1605, 1637], [55], []) f a g u.1 u.2.1 u.2.2 ∧ (∃ i2 n2 : Nat, (u.1 1604).toInt = (i2 : Int) ∧ i ≤ i2 ∧ i2 ≤ N ∧ ((v = 1 ∧ ((u.1 1605).toInt = (n2 : Int) ∧ n2 ≤ 50) ∧ i < i2 ∧ pG ob T d 3 i n (true, i2, n2) ∧ cdP ob T d 3 i i2 s0 (a 55) (u.2.1 55) (u.1 1637) (2 * d + 4)) ∨ (v = 0 ∧ pG ob T d 3 i n (false, i2, 0))))) (fun u => xX K r u.1 u.2.1 u.2.2 tx) A below ([.ref (r 50), .int dp] : List Value).toArray s 0 0) (F0 m 4 ls []) := by
    intro n9
    induction n9 with
    | zero =>
      intro i0 n0 ko so F5 B6 G7  H locs ls y3 y4 hmlp8 hI hG hE hk0 b10 hvlp8_0 hvlp8_1 hvlp8_2 hvlp8_3 hvlp8_4 hvlp8_5 hvlp8_6 hvlp8_7 hP hD hS hl
      exact (by have h1 := b10.2; have h2 := hmlp8; omega : False).elim
    | succ n9 ihlp8 =>
      intro i0 n0 ko so F5 B6 G7  H locs ls y3 y4 hmlp8 hI hG hE hk0 b10 hvlp8_0 hvlp8_1 hvlp8_2 hvlp8_3 hvlp8_4 hvlp8_5 hvlp8_6 hvlp8_7 hP hD hS hl
      obtain ⟨gv11, egv11⟩ : ∃ z : Int32, z = F5 1604 := ⟨_, rfl⟩
      have hg12 : gv11.toInt = ((i0 : Nat) : Int) := by rw [egv11]; exact hvlp8_0
      have b13 : kb 0 gv11 400 := kb_pos hvlp8_1.2 hN4 hg12
      obtain ⟨z14, ez14⟩ : ∃ z : Int32, z = F5 1605 := ⟨_, rfl⟩
      have hzz14 : z14.toInt = ((n0 : Nat) : Int) := by rw [ez14]; exact hvlp8_2.1
      have b15 : kb 0 z14 50 := ⟨by omega, by have w1 := hvlp8_2.2; omega⟩
      have xo := hvlp8_3
      obtain ⟨zs16, ezs16⟩ : ∃ z : Int32, z = F5 1637 := ⟨_, rfl⟩
      have hzzs16 : zs16.toInt = ((so : Nat) : Int) := by rw [ezs16]; exact hvlp8_5
      have hno := hvlp8_6
      have hpo := hvlp8_7
      have hlo : so ≤ i0 := tO1_le hno hsi
      refine lv_iload_n hx hb dX4_readTest_4 rfl (lv_at hl 0 rfl) ?_
      refine lv_sipush (v := 400) hx hb dX4_readTest_5 (by decide) ?_
      refine lv_icmp_ge (tgt := 130) hx hb dX4_readTest_8 (by decide) (fun c17 => ?_) (fun c17 => ?_)
      · exact (by have w1 := kc_le c17; have w2 := hvlp8_4; have w3 := hvlp8_1; have w4 : (400 : Int32).toInt = 400 := (by decide +kernel); omega : False).elim
      · have h18 := (kc_nle c17)
        have b19 : kb 0 y3 399 := kr_lt1 h18 b10 kc_400 (by decide)
        refine lv_iconst (v := (-1)) hx hb dX4_readTest_11 (by decide) ?_
        refine lv_istore (lv' := [(4, .int (-1)), (3, .int y3), (2, .int y4), (0, .ref (r 50)), (1, .int dp)]) hx hb dX4_readTest_12 hl (by decide) rfl (fun ls hl => ?_)
        refine lv_iconst (v := 0) hx hb dX4_readTest_14 (by decide) ?_
        refine lv_istore (lv' := [(5, .int 0), (4, .int (-1)), (3, .int y3), (2, .int y4), (0, .ref (r 50)), (1, .int dp)]) hx hb dX4_readTest_15 hl (by decide) rfl (fun ls hl => ?_)
        have lp25 : ∀ (n26 : Nat) (i1 : Nat) (n1 : Nat) (ki : Nat) (s1 : Nat) (F22 : Nat → Int32) (B23 : Nat → Nat → Int32) (G24 : xG) (H : Heap) (locs : List Loc) (ls : Array Slot) (y20 : Int32) (y21 : Int32), (400 < y20.toInt + (n26 : Int)) → (xI F22 B23) → (gOK K G24.2 tt) → (xEk ([1604, 1605, 1637], [55], []) f a g F22 B23 G24) → (xQ F22 B23 N ob T pl) → (kb 0 y20 400) → ((F22 1604).toInt = (i1 : Int)) → (i0 + 2 * ki ≤ i1 ∧ i1 ≤ N) → ((F22 1605).toInt = (n1 : Int) ∧ n1 ≤ 50) → (∀ r, pG ob T d 4 i1 n1 r → pG ob T d 4 i0 n0 r) → (y20.toInt = (ki : Int)) → ((F22 1637).toInt = (s1 : Int)) → (tI1 ob T d (B23 55) i0 so i1 s1 y21) → (∀ p, p < so → B23 55 p = B6 55 p) → va_P D vwCl (xX K r F22 B23 G24 tx) H → va_D A (xX K r F22 B23 G24 tx) → va_S A s.heap H locs → lv_has ls 6 [(5, .int y20), (4, .int y21), (3, .int y3), (2, .int y4), (0, .ref (r 50)), (1, .int dp)] → W p l e (rmD (2 * d + 10) 0 0) s m ([.ref (r 50), .int dp] : List Value).toArray below meth c H locs 0 0 (kQi D (tysK K) (fun v (u : xS) => kb 0 v 1 ∧ xI u.1 u.2.1 ∧ gOK K u.2.2.2 tt ∧ xEk ([1604, 1605, 1637], [55], []) f a g u.1 u.2.1 u.2.2 ∧ (∃ i2 n2 : Nat, (u.1 1604).toInt = (i2 : Int) ∧ i ≤ i2 ∧ i2 ≤ N ∧ ((v = 1 ∧ ((u.1 1605).toInt = (n2 : Int) ∧ n2 ≤ 50) ∧ i < i2 ∧ pG ob T d 3 i n (true, i2, n2) ∧ cdP ob T d 3 i i2 s0 (a 55) (u.2.1 55) (u.1 1637) (2 * d + 4)) ∨ (v = 0 ∧ pG ob T d 3 i n (false, i2, 0))))) (fun u => xX K r u.1 u.2.1 u.2.2 tx) A below ([.ref (r 50), .int dp] : List Value).toArray s 0 0) (F0 m 17 ls []) := by
          intro n26
          induction n26 with
          | zero =>
            intro i1 n1 ki s1 F22 B23 G24  H locs ls y20 y21 hmlp25 hI hG hE hk0 b27 hvlp25_0 hvlp25_1 hvlp25_2 hvlp25_3 hvlp25_4 hvlp25_5 hvlp25_6 hvlp25_7 hP hD hS hl
            exact (by have h1 := b27.2; have h2 := hmlp25; omega : False).elim
          | succ n26 ihlp25 =>
            intro i1 n1 ki s1 F22 B23 G24  H locs ls y20 y21 hmlp25 hI hG hE hk0 b27 hvlp25_0 hvlp25_1 hvlp25_2 hvlp25_3 hvlp25_4 hvlp25_5 hvlp25_6 hvlp25_7 hP hD hS hl
            obtain ⟨gv28, egv28⟩ : ∃ z : Int32, z = F22 1604 := ⟨_, rfl⟩
            have hg29 : gv28.toInt = ((i1 : Nat) : Int) := by rw [egv28]; exact hvlp25_0
            have b30 : kb 0 gv28 400 := kb_pos hvlp25_1.2 hN4 hg29
            obtain ⟨z31, ez31⟩ : ∃ z : Int32, z = F22 1605 := ⟨_, rfl⟩
            have hzz31 : z31.toInt = ((n1 : Nat) : Int) := by rw [ez31]; exact hvlp25_2.1
            have b32 : kb 0 z31 50 := ⟨by omega, by have w1 := hvlp25_2.2; omega⟩
            have xi := hvlp25_3
            obtain ⟨zs33, ezs33⟩ : ∃ z : Int32, z = F22 1637 := ⟨_, rfl⟩
            have hzzs33 : zs33.toInt = ((s1 : Nat) : Int) := by rw [ezs33]; exact hvlp25_5
            have hni := hvlp25_6
            have hpi := hvlp25_7
            have hli : s1 ≤ i1 := tI1_le hni hlo
            refine lv_iload hx hb dX4_readTest_17 (lv_at hl 0 rfl) ?_
            refine lv_sipush (v := 400) hx hb dX4_readTest_19 (by decide) ?_
            refine lv_icmp_ge (tgt := 84) hx hb dX4_readTest_22 (by decide) (fun c34 => ?_) (fun c34 => ?_)
            · exact (by have w1 := kc_le c34; have w2 := hvlp25_4; have w3 := hvlp25_1; have w4 : (400 : Int32).toInt = 400 := (by decide +kernel); omega : False).elim
            · have h35 := (kc_nle c34)
              have b36 : kb 0 y20 399 := kr_lt1 h35 b27 kc_400 (by decide)
              refine lv_aload_n hx hb dX4_readTest_25 rfl (lv_at hl 4 rfl) ?_
              refine lv_iload_n hx hb dX4_readTest_26 rfl (lv_at hl 5 rfl) ?_
              refine kIG.callW (As := [.int dp]) (rest := []) ⟨hx, hb, hml, hown, hg⟩ (hpl l r F22 B23 G24 tx tt hT hI hG dp bdp N (i1) (n1) (s1) ob T pl hk0 (by rw [egv28.symm]; exact hg29) hvlp25_1.2 ⟨(by rw [ez31.symm]; exact hzz31), hvlp25_2.2⟩ ⟨(by show (F22 1637).toInt = ((s1 : Nat) : Int); rw [ezs33.symm]; exact hzzs33), (by omega)⟩ hp5) (cwV 1 hg (kgV wt4_54 wt4_56 wp2_6 wt1_7 wt4_57) rfl rfl rfl (by decide +kernel) ⟨by dsimp only [rmD]; omega, by dsimp only [rmD]; omega⟩) hV hK hP hD hS hA (50) 4 rfl rfl rfl hl.1 rfl (Nat.le_of_ble_eq_true rfl) dX4_readTest_27 ⟨Nat.le_refl _, Nat.le_refl _⟩ (fun v38 u39 H locs hw37 hP hD hS => ?_)
              obtain ⟨f40, a41, g42⟩ := u39
              have hP : va_P D vwCl (xX K r f40 a41 g42 tx) H := hP
              have hD : va_D A (xX K r f40 a41 g42 tx) := hD
              have hI : xI f40 a41 := hw37.2.1
              have hG : gOK K g42.2 tt := hw37.2.2.1
              have eE43 : xEk ([1604, 1605, 1637], [55], []) F22 B23 G24 f40 a41 g42 := hw37.2.2.2.1
              have hE : xEk ([1604, 1605, 1637], [55], []) f a g f40 a41 g42 := xEk_tr hE eE43
              have hk0 : xQ f40 a41 N ob T pl := xQ_c hk0 (eE43.1 1603 rfl) (eE43.1 1606 rfl) ⟨eE43.2.1 56 rfl, eE43.2.1 57 rfl⟩
              obtain ⟨ik44, nk44, hgk44, hlek44, hNk44, hck44⟩ := hw37.2.2.2.2
              rcases hck44 with ⟨hvk44, h3k44, hltk44, hGk44, hcdk44⟩ | ⟨hvk44, hGk44⟩
              · refine k_top (z := 1) hvk44 ?_
                obtain ⟨gv45, egv45⟩ : ∃ z : Int32, z = f40 1604 := ⟨_, rfl⟩
                have hg46 : gv45.toInt = ((ik44 : Nat) : Int) := by rw [egv45]; exact hgk44
                have b47 : kb 0 gv45 400 := kb_pos hNk44 hN4 hg46
                obtain ⟨z48, ez48⟩ : ∃ z : Int32, z = f40 1605 := ⟨_, rfl⟩
                have hzz48 : z48.toInt = ((nk44 : Nat) : Int) := by rw [ez48]; exact h3k44.1
                have b49 : kb 0 z48 50 := ⟨by omega, by have w1 := h3k44.2; omega⟩
                obtain ⟨sk44, wk44, hzk44, hlk44, hqk44, hek44, hrk44⟩ := hcdk44
                obtain ⟨zs50, ezs50⟩ : ∃ z : Int32, z = f40 1637 := ⟨_, rfl⟩
                have hzzs50 : zs50.toInt = ((sk44 : Nat) : Int) := by rw [ezs50]; exact hzk44
                refine lv_if_ne (tgt := 35) hx hb dX4_readTest_30 (by decide) (fun c51 => ?_) (fun c51 => ?_)
                · refine lv_aload_n hx hb dX4_readTest_35 rfl (lv_at hl 4 rfl) ?_
                  refine va_get (D := D) (ci := 4) (v := .ref (r 51)) (C := RX4) (T := TX4) (N := 7) hx hb hg inC4 hown hK hP 50 rfl rfl 0 (by decide) (hg _ wt2_64) (fun _ h9 => h9) rfl dX4_readTest_36 ?_
                  refine lv_iload hx hb dX4_readTest_39 (lv_at hl 1 rfl) ?_
                  refine kVG.callW (As := [.int y21]) (rest := []) ⟨hx, hb, hml, hown, hg⟩ (y_land l r f40 a41 g42 tx tt hT hI hG y21  (sk44) (by show (f40 1637).toInt = ((sk44 : Nat) : Int); rw [ezs50.symm]; exact hzzs50) (by omega) (tI1_ld hni hrk44 hqk44)) (cwV 1 hg (kgV wt4_58 wt4_59 wt4_60 wt1_8 wt4_61) rfl rfl rfl (by decide +kernel) ⟨by dsimp only [rmD]; omega, by dsimp only [rmD]; omega⟩) hV hK hP hD hS hA (51) 10 rfl rfl rfl hl.1 rfl (Nat.le_of_ble_eq_true rfl) dX4_readTest_41 ⟨Nat.le_refl _, Nat.le_refl _⟩ (fun u54 H locs hw52 hP hD hS => ?_)
                  obtain ⟨f55, a56, g57⟩ := u54
                  have hP : va_P D vwCl (xX K r f55 a56 g57 tx) H := hP
                  have hD : va_D A (xX K r f55 a56 g57 tx) := hD
                  have hI : xI f55 a56 := hw52.1
                  have hG : gOK K g57.2 tt := hw52.2.1
                  have eE58 : xEk ([], [55], []) f40 a41 g42 f55 a56 g57 := hw52.2.2.1
                  have hE : xEk ([1604, 1605, 1637], [55], []) f a g f55 a56 g57 := xEk_tr hE (xEk_w (by decide +kernel) eE58)
                  have hk0 : xQ f55 a56 N ob T pl := xQ_c hk0 (eE58.1 1603 rfl) (eE58.1 1606 rfl) ⟨eE58.2.1 56 rfl, eE58.2.1 57 rfl⟩
                  obtain ⟨wo59, hwo59⟩ := tI1_st hni hek44 hrk44 hqk44 hlk44 (by omega) hw52.2.2.2
                  have hso59 := hwo59.2.1
                  refine lv_aload_n hx hb dX4_readTest_44 rfl (lv_at hl 4 rfl) ?_
                  refine kIG.callW (As := []) (rest := []) ⟨hx, hb, hml, hown, hg⟩ (y_inHand l r f55 a56 g57 tx tt hT hI hG   N (ik44) ob T pl hk0 (by rw [((eE58.1 1604 rfl).trans egv45.symm)]; exact hg46) hNk44) (cwV 0 hg (kgV wt3_238 wt4_0 wp1_12 wt1_7 wt4_1) rfl rfl rfl (by decide +kernel) ⟨by dsimp only [rmD]; omega, by dsimp only [rmD]; omega⟩) hV hK hP hD hS hA (50) 4 rfl rfl rfl hl.1 rfl (Nat.le_of_ble_eq_true rfl) dX4_readTest_45 ⟨Nat.le_refl _, Nat.le_refl _⟩ (fun v61 u62 H locs hw60 hP hD hS => ?_)
                  have hP : va_P D vwCl (xX K r f55 a56 g57 tx) H := hP
                  have hD : va_D A (xX K r f55 a56 g57 tx) := hD
                  have b63 : kb 0 v61 4000 := kb_eq hw60.2 (hk0.2.2.2.2.2.2 (ik44))
                  refine lv_sipush (v := 2001) hx hb dX4_readTest_48 (by decide) ?_
                  refine lv_icmp_eq (tgt := 57) hx hb dX4_readTest_51 (by decide) (fun c64 => ?_) (fun c64 => ?_)
                  · have b65 : kb 2001 v61 2001 := kb_eq c64 kc_2001
                    refine lv_aload_n hx hb dX4_readTest_57 rfl (lv_at hl 4 rfl) ?_
                    refine lv_dup hx hb dX4_readTest_58 rfl ?_
                    have hlt66 : ik44 < N := xQ_lt hk0 (ne_4000 (hw60.2.symm.trans c64) (by decide +kernel))
                    have b67 : kb 0 gv45 399 := kb_pos1 hlt66 hN4 hg46
                    refine va_get (D := D) (ci := 4) (v := .int (f55 1604)) (C := RX4) (T := TX4) (N := 7) hx hb hg inC4 hown hK hP 50 rfl rfl 4 (by decide) (hg _ wt2_69) (fun _ h9 => h9) rfl dX4_readTest_59 ?_
                    refine k_top (z := gv45) ((eE58.1 1604 rfl).trans egv45.symm) ?_
                    refine lv_iconst (v := 1) hx hb dX4_readTest_62 (by decide) ?_
                    refine lv_iadd hx hb dX4_readTest_63 ?_
                    refine lv_topi (fun t68 et68 => ?_)
                    have b69 : kb 1 t68 400 := kb_eq et68 (kb_add b67 kc_1 (by decide) (by decide))
                    have qt68 : t68.toInt = gv45.toInt + 1 := by rw [et68]; exact kt_addc b67 kc_1 (by decide) (by decide)
                    have hg70 : t68.toInt = ((ik44 + 1 : Nat) : Int) := by rw [qt68, hg46]; omega
                    refine va_put (D := D) (ci := 4) (v := .int t68) (ty := .int) (C := RX4) (T := TX4) (N := 7) hx hb hg inC4 tyX4 tyX4_ok nmX4 hown hK hP hD hS 50 rfl rfl 4 (by decide) (hg _ wt2_69) (fun _ h9 => h9) rfl (by decide +kernel) rfl rfl (Nat.le_of_ble_eq_true rfl) dX4_readTest_64 (fun H locs hP hD hS => ?_)
                    have hP : va_P D vwCl (xX K r (upd f55 1604 t68) a56 g57 tx) H := hP
                    have hD : va_D A (xX K r (upd f55 1604 t68) a56 g57 tx) := hD
                    refine k_gen (P := fun z => va_P D vwCl (xX K r z a56 g57 tx) H ∧ va_D A (xX K r z a56 g57 tx) ∧ (xI z a56) ∧ (gOK K g57.2 tt) ∧ (xEk ([1604, 1605, 1637], [55], []) f a g z a56 g57) ∧ (xQ z a56 N ob T pl)) (upd f55 1604 t68) ⟨hP, hD, (xI_f hI (fI_st hI.1 1604 (kb_any _) (by decide) (by decide))), hG, (xEk_f hE rfl), (xQ_f hk0 (by decide) (by decide))⟩ (fun f_71 ef_71 hq => ?_)
                    obtain ⟨hP, hD, hI, hG, hE, hk0⟩ := hq
                    refine lv_aload_n hx hb dX4_readTest_67 rfl (lv_at hl 4 rfl) ?_
                    refine va_get (D := D) (ci := 4) (v := .ref (r 51)) (C := RX4) (T := TX4) (N := 7) hx hb hg inC4 hown hK hP 50 rfl rfl 0 (by decide) (hg _ wt2_64) (fun _ h9 => h9) rfl dX4_readTest_68 ?_
                    refine lv_iconst (v := 4) hx hb dX4_readTest_71 (by decide) ?_
                    refine lv_iconst (v := 0) hx hb dX4_readTest_72 (by decide) ?_
                    refine kIG.callW (As := [.int 4, .int 0]) (rest := []) ⟨hx, hb, hml, hown, hg⟩ (y_emit l r f_71 a56 g57 tx tt hT hI hG 4 0 (kb_w kc_4 (by decide) (by decide)) (kb_w kc_0 (by decide) (by decide)) (sk44) (by show (f_71 1637).toInt = ((sk44 : Nat) : Int); rw [((show f_71 1637 = f55 1637 from by rw [← ef_71]; rfl).trans ((eE58.1 1637 rfl).trans ezs50.symm))]; exact hzzs50) (by omega)) (cwV 2 hg (kgV wt4_14 wt4_15 wt4_16 wt1_8 wt4_17) rfl rfl rfl (by decide +kernel) ⟨by dsimp only [rmD]; omega, by dsimp only [rmD]; omega⟩) hV hK hP hD hS hA (51) 10 rfl rfl rfl hl.1 rfl (Nat.le_of_ble_eq_true rfl) dX4_readTest_73 ⟨Nat.le_refl _, Nat.le_refl _⟩ (fun v73 u74 H locs hw72 hP hD hS => ?_)
                    obtain ⟨f75, a76, g77⟩ := u74
                    have hP : va_P D vwCl (xX K r f75 a76 g77 tx) H := hP
                    have hD : va_D A (xX K r f75 a76 g77 tx) := hD
                    have hI : xI f75 a76 := hw72.2.1
                    have hG : gOK K g77.2 tt := hw72.2.2.1
                    have eE78 : xEk ([1637], [55], []) f_71 a56 g57 f75 a76 g77 := hw72.2.2.2.1
                    have hE : xEk ([1604, 1605, 1637], [55], []) f a g f75 a76 g77 := xEk_tr hE (xEk_w (by decide +kernel) eE78)
                    have hk0 : xQ f75 a76 N ob T pl := xQ_c hk0 (eE78.1 1603 rfl) (eE78.1 1606 rfl) ⟨eE78.2.1 56 rfl, eE78.2.1 57 rfl⟩
                    obtain ⟨zs79, ezs79⟩ : ∃ z : Int32, z = f75 1637 := ⟨_, rfl⟩
                    have hzzs79 : zs79.toInt = ((sk44 + 1 : Nat) : Int) := by rw [ezs79]; exact hw72.2.2.2.2.2.1
                    refine lv_istore (lv' := [(4, .int v73), (5, .int y20), (3, .int y3), (2, .int y4), (0, .ref (r 50)), (1, .int dp)]) hx hb dX4_readTest_76 hl (by decide) rfl (fun ls hl => ?_)
                    obtain ⟨t80, et80⟩ : ∃ z : Int32, z = y20 + Int32.ofInt 1 := ⟨_, rfl⟩
                    have qt80 : t80.toInt = y20.toInt + 1 := by rw [et80]; exact km_inc b36 (by decide) (by decide)
                    have b81 : kb 1 t80 400 := kb_inc (k := 1) qt80 b36
                    refine lv_iinc (v := t80) (lv' := [(5, .int t80), (4, .int v73), (3, .int y3), (2, .int y4), (0, .ref (r 50)), (1, .int dp)]) hx hb dX4_readTest_78 hl (k := 1) rfl et80.symm (by decide) rfl (fun ls hl => ?_)
                    refine lv_goto (tgt := 17) hx hb dX4_readTest_81 (by decide) ?_
                    exact ihlp25 (ik44 + 1) (nk44) (ki + 1) (sk44 + 1) f75 a76 g77 _ _ _ t80 v73 (km_up hmlp25 qt80) hI hG hE hk0 (kb_w b81 (by decide) (by decide)) (by rw [((eE78.1 1604 rfl).trans (show f_71 1604 = t68 from by rw [← ef_71]; rfl))]; exact hg70) (⟨by have w1 := hvlp25_1.1; omega, hlt66⟩) (⟨(by rw [((eE78.1 1605 rfl).trans ((show f_71 1605 = f55 1605 from by rw [← ef_71]; rfl).trans ((eE58.1 1605 rfl).trans ez48.symm)))]; exact hzz48), h3k44.2⟩) (fun r h => xi r (pi_4 hGk44 (pi_9y (hw60.2.symm.trans c64) h))) (by have w1 := hvlp25_4; omega) (by show (f75 1637).toInt = ((sk44 + 1 : Nat) : Int); rw [ezs79.symm]; exact hzzs79) (Or.inr ⟨(fun q => by have w1 := congrArg Int32.toInt q; have w2 : (-1 : Int32).toInt = -1 := (by decide +kernel); have w3 := hw72.2.2.2.2.1; omega), by have w1 := hwo59.2.1; omega, ik44, sk44, wo59, rfl, (hw60.2.symm.trans c64), hw72.2.2.2.2.1, rfl, rn_cg hwo59.1 (fun p h5 h6 => hw72.2.2.2.2.2.2.2 p (by omega)), by rw [hw72.2.2.2.2.2.2.1]; decide +kernel, hwo59.2.2.1⟩) (fun p hp => (hw72.2.2.2.2.2.2.2 p (by have w1 := hwo59.1.1; omega)).trans ((hwo59.2.2.2 p hp).trans (hpi p hp))) hP hD hS (lv_sub hl [0, 1, 2, 3, 4, 5] rfl)
                  · refine lv_goto (tgt := 84) hx hb dX4_readTest_54 (by decide) ?_
                    have hI82 : pG ob T d 4 i0 n0 (true, ik44, nk44) := xi _ (pi_4 hGk44 (pi_9n (fun q => c64 (hw60.2.trans q))))
                    have hT83 : eG ob T d 4 i0 e1 ik44 wo59 := hwo59.2.2.1 _ _ (ei_9n (fun q => c64 (hw60.2.trans q)))
                    refine lv_aload_n hx hb dX4_readTest_84 rfl (lv_at hl 4 rfl) ?_
                    refine va_get (D := D) (ci := 4) (v := .ref (r 51)) (C := RX4) (T := TX4) (N := 7) hx hb hg inC4 hown hK hP 50 rfl rfl 0 (by decide) (hg _ wt2_64) (fun _ h9 => h9) rfl dX4_readTest_85 ?_
                    refine lv_iload_n hx hb dX4_readTest_88 rfl (lv_at hl 3 rfl) ?_
                    refine kVG.callW (As := [.int y4]) (rest := []) ⟨hx, hb, hml, hown, hg⟩ (y_land l r f55 a56 g57 tx tt hT hI hG y4  (sk44) (by show (f55 1637).toInt = ((sk44 : Nat) : Int); rw [((eE58.1 1637 rfl).trans ezs50.symm)]; exact hzzs50) (by omega) (tO1_ld hno hwo59.1 (fun p hp => (hwo59.2.2.2 p hp).trans (hpi p hp)))) (cwV 1 hg (kgV wt4_58 wt4_59 wt4_60 wt1_8 wt4_61) rfl rfl rfl (by decide +kernel) ⟨by dsimp only [rmD]; omega, by dsimp only [rmD]; omega⟩) hV hK hP hD hS hA (51) 10 rfl rfl rfl hl.1 rfl (Nat.le_of_ble_eq_true rfl) dX4_readTest_89 ⟨Nat.le_refl _, Nat.le_refl _⟩ (fun u86 H locs hw84 hP hD hS => ?_)
                    obtain ⟨f87, a88, g89⟩ := u86
                    have hP : va_P D vwCl (xX K r f87 a88 g89 tx) H := hP
                    have hD : va_D A (xX K r f87 a88 g89 tx) := hD
                    have hI : xI f87 a88 := hw84.1
                    have hG : gOK K g89.2 tt := hw84.2.1
                    have eE90 : xEk ([], [55], []) f55 a56 g57 f87 a88 g89 := hw84.2.2.1
                    have hE : xEk ([1604, 1605, 1637], [55], []) f a g f87 a88 g89 := xEk_tr hE (xEk_w (by decide +kernel) eE90)
                    have hk0 : xQ f87 a88 N ob T pl := xQ_c hk0 (eE90.1 1603 rfl) (eE90.1 1606 rfl) ⟨eE90.2.1 56 rfl, eE90.2.1 57 rfl⟩
                    obtain ⟨wo91, hwo91⟩ := tO1_st hno hT83 hwo59.1 (fun p hp => (hwo59.2.2.2 p hp).trans (hpi p hp)) hwo59.2.1 (by omega) hw84.2.2.2
                    have hso91 := hwo91.2.1
                    refine lv_aload_n hx hb dX4_readTest_92 rfl (lv_at hl 4 rfl) ?_
                    refine kIG.callW (As := []) (rest := []) ⟨hx, hb, hml, hown, hg⟩ (y_inHand l r f87 a88 g89 tx tt hT hI hG   N (ik44) ob T pl hk0 (by rw [((eE90.1 1604 rfl).trans ((eE58.1 1604 rfl).trans egv45.symm))]; exact hg46) hNk44) (cwV 0 hg (kgV wt3_238 wt4_0 wp1_12 wt1_7 wt4_1) rfl rfl rfl (by decide +kernel) ⟨by dsimp only [rmD]; omega, by dsimp only [rmD]; omega⟩) hV hK hP hD hS hA (50) 4 rfl rfl rfl hl.1 rfl (Nat.le_of_ble_eq_true rfl) dX4_readTest_93 ⟨Nat.le_refl _, Nat.le_refl _⟩ (fun v93 u94 H locs hw92 hP hD hS => ?_)
                    have hP : va_P D vwCl (xX K r f87 a88 g89 tx) H := hP
                    have hD : va_D A (xX K r f87 a88 g89 tx) := hD
                    have b95 : kb 0 v93 4000 := kb_eq hw92.2 (hk0.2.2.2.2.2.2 (ik44))
                    refine lv_sipush (v := 2000) hx hb dX4_readTest_96 (by decide) ?_
                    refine lv_icmp_eq (tgt := 104) hx hb dX4_readTest_99 (by decide) (fun c96 => ?_) (fun c96 => ?_)
                    · have b97 : kb 2000 v93 2000 := kb_eq c96 kc_2000
                      refine lv_aload_n hx hb dX4_readTest_104 rfl (lv_at hl 4 rfl) ?_
                      refine lv_dup hx hb dX4_readTest_105 rfl ?_
                      have hlt98 : ik44 < N := xQ_lt hk0 (ne_4000 (hw92.2.symm.trans c96) (by decide +kernel))
                      have b99 : kb 0 gv45 399 := kb_pos1 hlt98 hN4 hg46
                      refine va_get (D := D) (ci := 4) (v := .int (f87 1604)) (C := RX4) (T := TX4) (N := 7) hx hb hg inC4 hown hK hP 50 rfl rfl 4 (by decide) (hg _ wt2_69) (fun _ h9 => h9) rfl dX4_readTest_106 ?_
                      refine k_top (z := gv45) ((eE90.1 1604 rfl).trans ((eE58.1 1604 rfl).trans egv45.symm)) ?_
                      refine lv_iconst (v := 1) hx hb dX4_readTest_109 (by decide) ?_
                      refine lv_iadd hx hb dX4_readTest_110 ?_
                      refine lv_topi (fun t100 et100 => ?_)
                      have b101 : kb 1 t100 400 := kb_eq et100 (kb_add b99 kc_1 (by decide) (by decide))
                      have qt100 : t100.toInt = gv45.toInt + 1 := by rw [et100]; exact kt_addc b99 kc_1 (by decide) (by decide)
                      have hg102 : t100.toInt = ((ik44 + 1 : Nat) : Int) := by rw [qt100, hg46]; omega
                      refine va_put (D := D) (ci := 4) (v := .int t100) (ty := .int) (C := RX4) (T := TX4) (N := 7) hx hb hg inC4 tyX4 tyX4_ok nmX4 hown hK hP hD hS 50 rfl rfl 4 (by decide) (hg _ wt2_69) (fun _ h9 => h9) rfl (by decide +kernel) rfl rfl (Nat.le_of_ble_eq_true rfl) dX4_readTest_111 (fun H locs hP hD hS => ?_)
                      have hP : va_P D vwCl (xX K r (upd f87 1604 t100) a88 g89 tx) H := hP
                      have hD : va_D A (xX K r (upd f87 1604 t100) a88 g89 tx) := hD
                      refine k_gen (P := fun z => va_P D vwCl (xX K r z a88 g89 tx) H ∧ va_D A (xX K r z a88 g89 tx) ∧ (xI z a88) ∧ (gOK K g89.2 tt) ∧ (xEk ([1604, 1605, 1637], [55], []) f a g z a88 g89) ∧ (xQ z a88 N ob T pl)) (upd f87 1604 t100) ⟨hP, hD, (xI_f hI (fI_st hI.1 1604 (kb_any _) (by decide) (by decide))), hG, (xEk_f hE rfl), (xQ_f hk0 (by decide) (by decide))⟩ (fun f_103 ef_103 hq => ?_)
                      obtain ⟨hP, hD, hI, hG, hE, hk0⟩ := hq
                      refine lv_aload_n hx hb dX4_readTest_114 rfl (lv_at hl 4 rfl) ?_
                      refine va_get (D := D) (ci := 4) (v := .ref (r 51)) (C := RX4) (T := TX4) (N := 7) hx hb hg inC4 hown hK hP 50 rfl rfl 0 (by decide) (hg _ wt2_64) (fun _ h9 => h9) rfl dX4_readTest_115 ?_
                      refine lv_iconst (v := 3) hx hb dX4_readTest_118 (by decide) ?_
                      refine lv_iconst (v := 0) hx hb dX4_readTest_119 (by decide) ?_
                      refine kIG.callW (As := [.int 3, .int 0]) (rest := []) ⟨hx, hb, hml, hown, hg⟩ (y_emit l r f_103 a88 g89 tx tt hT hI hG 3 0 (kb_w kc_3 (by decide) (by decide)) (kb_w kc_0 (by decide) (by decide)) (sk44) (by show (f_103 1637).toInt = ((sk44 : Nat) : Int); rw [((show f_103 1637 = f87 1637 from by rw [← ef_103]; rfl).trans ((eE90.1 1637 rfl).trans ((eE58.1 1637 rfl).trans ezs50.symm)))]; exact hzzs50) (by omega)) (cwV 2 hg (kgV wt4_14 wt4_15 wt4_16 wt1_8 wt4_17) rfl rfl rfl (by decide +kernel) ⟨by dsimp only [rmD]; omega, by dsimp only [rmD]; omega⟩) hV hK hP hD hS hA (51) 10 rfl rfl rfl hl.1 rfl (Nat.le_of_ble_eq_true rfl) dX4_readTest_120 ⟨Nat.le_refl _, Nat.le_refl _⟩ (fun v105 u106 H locs hw104 hP hD hS => ?_)
                      obtain ⟨f107, a108, g109⟩ := u106
                      have hP : va_P D vwCl (xX K r f107 a108 g109 tx) H := hP
                      have hD : va_D A (xX K r f107 a108 g109 tx) := hD
                      have hI : xI f107 a108 := hw104.2.1
                      have hG : gOK K g109.2 tt := hw104.2.2.1
                      have eE110 : xEk ([1637], [55], []) f_103 a88 g89 f107 a108 g109 := hw104.2.2.2.1
                      have hE : xEk ([1604, 1605, 1637], [55], []) f a g f107 a108 g109 := xEk_tr hE (xEk_w (by decide +kernel) eE110)
                      have hk0 : xQ f107 a108 N ob T pl := xQ_c hk0 (eE110.1 1603 rfl) (eE110.1 1606 rfl) ⟨eE110.2.1 56 rfl, eE110.2.1 57 rfl⟩
                      obtain ⟨zs111, ezs111⟩ : ∃ z : Int32, z = f107 1637 := ⟨_, rfl⟩
                      have hzzs111 : zs111.toInt = ((sk44 + 1 : Nat) : Int) := by rw [ezs111]; exact hw104.2.2.2.2.2.1
                      refine lv_istore_n (lv' := [(2, .int v105), (5, .int y20), (4, .int y21), (3, .int y3), (0, .ref (r 50)), (1, .int dp)]) hx hb dX4_readTest_123 rfl hl (by decide) rfl (fun ls hl => ?_)
                      obtain ⟨t112, et112⟩ : ∃ z : Int32, z = y3 + Int32.ofInt 1 := ⟨_, rfl⟩
                      have qt112 : t112.toInt = y3.toInt + 1 := by rw [et112]; exact km_inc b19 (by decide) (by decide)
                      have b113 : kb 1 t112 400 := kb_inc (k := 1) qt112 b19
                      refine lv_iinc (v := t112) (lv' := [(3, .int t112), (2, .int v105), (5, .int y20), (4, .int y21), (0, .ref (r 50)), (1, .int dp)]) hx hb dX4_readTest_124 hl (k := 3) rfl et112.symm (by decide) rfl (fun ls hl => ?_)
                      refine lv_goto (tgt := 4) hx hb dX4_readTest_127 (by decide) ?_
                      exact ihlp8 (ik44 + 1) (nk44) (ko + 1) (sk44 + 1) f107 a108 g109 _ _ _ t112 v105 (km_up hmlp8 qt112) hI hG hE hk0 (kb_w b113 (by decide) (by decide)) (by rw [((eE110.1 1604 rfl).trans (show f_103 1604 = t100 from by rw [← ef_103]; rfl))]; exact hg102) (⟨by have w1 := hvlp8_1.1; omega, hlt98⟩) (⟨(by rw [((eE110.1 1605 rfl).trans ((show f_103 1605 = f87 1605 from by rw [← ef_103]; rfl).trans ((eE90.1 1605 rfl).trans ((eE58.1 1605 rfl).trans ez48.symm))))]; exact hzz48), h3k44.2⟩) (fun r h => xo r (pi_3 hI82 (pi_8y (hw92.2.symm.trans c96) h))) (by have w1 := hvlp8_4; omega) (by show (f107 1637).toInt = ((sk44 + 1 : Nat) : Int); rw [ezs111.symm]; exact hzzs111) (Or.inr ⟨(fun q => by have w1 := congrArg Int32.toInt q; have w2 : (-1 : Int32).toInt = -1 := (by decide +kernel); have w3 := hw104.2.2.2.2.1; omega), by have w1 := hwo91.2.1; omega, ik44, sk44, wo91, rfl, (hw92.2.symm.trans c96), hw104.2.2.2.2.1, rfl, rn_cg hwo91.1 (fun p h5 h6 => hw104.2.2.2.2.2.2.2 p (by omega)), by rw [hw104.2.2.2.2.2.2.1]; decide +kernel, hwo91.2.2.1⟩) (fun p hp => (hw104.2.2.2.2.2.2.2 p (by have w1 := hwo91.1.1; omega)).trans ((hwo91.2.2.2 p hp).trans (hpo p hp))) hP hD hS (lv_sub hl [0, 1, 4, 5] rfl)
                    · refine lv_iconst (v := 1) hx hb dX4_readTest_102 (by decide) ?_
                      exact kI_ret (v := 1) hx hb hr hlocks (by decide +kernel) hK hS dX4_readTest_103 (f87, a88, g89) hP hD ⟨(kb_w kc_1 (by decide) (by decide)), hI, hG, hE, ⟨ik44, nk44, (by show (f87 1604).toInt = ((ik44 : Nat) : Int); rw [((eE90.1 1604 rfl).trans ((eE58.1 1604 rfl).trans egv45.symm))]; exact hg46), (Nat.le_trans (Nat.le_trans (Nat.le_trans (Nat.le_trans (Nat.le_add_right _ _) hvlp8_1.1) (Nat.le_add_right _ _)) hvlp25_1.1) hlek44), hNk44, Or.inl ⟨rfl, ⟨(by show (f87 1605).toInt = ((nk44 : Nat) : Int); rw [((eE90.1 1605 rfl).trans ((eE58.1 1605 rfl).trans ez48.symm))]; exact hzz48), h3k44.2⟩, (by omega), xo _ (pi_3 hI82 (pi_8n (fun q => c96 (hw92.2.trans q)))), ⟨sk44, wo91, (by show (f87 1637).toInt = ((sk44 : Nat) : Int); rw [((eE90.1 1637 rfl).trans ((eE58.1 1637 rfl).trans ezs50.symm))]; exact hzzs50), hwo91.2.1, (fun p hp => (hwo91.2.2.2 p hp).trans (hpo p hp)), hwo91.2.2.1 _ _ (ei_8n (fun q => c96 (hw92.2.trans q))), hwo91.1⟩⟩⟩⟩
                · exact kb_dj c51 kc_1 kc_0 (by decide)
              · refine k_top (z := 0) hvk44 ?_
                obtain ⟨gv114, egv114⟩ : ∃ z : Int32, z = f40 1604 := ⟨_, rfl⟩
                have hg115 : gv114.toInt = ((ik44 : Nat) : Int) := by rw [egv114]; exact hgk44
                have b116 : kb 0 gv114 400 := kb_pos hNk44 hN4 hg115
                refine lv_if_ne (tgt := 35) hx hb dX4_readTest_30 (by decide) (fun c117 => ?_) (fun c117 => ?_)
                · exact kb_nsame c117 kc_0 kc_0
                · refine lv_iconst (v := 0) hx hb dX4_readTest_33 (by decide) ?_
                  exact kI_ret (v := 0) hx hb hr hlocks (by decide +kernel) hK hS dX4_readTest_34 (f40, a41, g42) hP hD ⟨(kb_w kc_0 (by decide) (by decide)), hI, hG, hE, ⟨ik44, 0, (by show (f40 1604).toInt = ((ik44 : Nat) : Int); rw [egv114.symm]; exact hg115), (Nat.le_trans (Nat.le_trans (Nat.le_trans (Nat.le_trans (Nat.le_add_right _ _) hvlp8_1.1) (Nat.le_add_right _ _)) hvlp25_1.1) hlek44), hNk44, Or.inr ⟨rfl, xo _ (pi_3f (xi _ (pi_4f hGk44)))⟩⟩⟩
        exact lp25 (401) (i0) (n0) 0 (so) F5 B6 G7 _ _ _ 0 (-1) (by have h1 := (kc_0); unfold kb at h1; omega) hI hG hE hk0 (kb_w kc_0 (by decide) (by decide)) (by rw [egv11.symm]; exact hg12) (⟨by omega, hvlp8_1.2⟩) (⟨(by rw [ez14.symm]; exact hzz14), hvlp8_2.2⟩) (fun r h => h) (by decide +kernel) (by show (F5 1637).toInt = ((so : Nat) : Int); rw [ezs16.symm]; exact hzzs16) (Or.inl ⟨rfl, rfl, rfl⟩) (fun p hp => rfl) hP hD hS (lv_sub hl [0, 1, 2, 3, 4, 5] rfl)
  exact lp8 (401) (i) (n) 0 (s0) f a g _ _ _ 0 (-1) (by have h1 := (kc_0); unfold kb at h1; omega) hI hG hE hk0 (kb_w kc_0 (by decide) (by decide)) (by rw [ecz4.symm]; exact hg0) (⟨by omega, hp2⟩) (⟨(by rw [ecz5.symm]; exact hn5), hl5⟩) (fun r h => h) (by decide +kernel) (by show (f 1637).toInt = ((s0 : Nat) : Int); rw [ecs.symm]; exact hcs) (Or.inl ⟨rfl, rfl, rfl⟩) (fun p hp => rfl) hP hD hS (lv_sub hl [0, 1, 2, 3] rfl)
set_option maxHeartbeats 4000000 in
set_option maxRecDepth 100000 in
theorem y_readPlain (d : Nat) (ih : ∀ ee, d = ee + 1 → eXTest ee) (hsum : eXSum d) (l : Launch) {D : va_G} {K : Nat → ClassId} (r : Nat → Nat) (f : Nat → Int32) (a : Nat → Nat → Int32) (g : xG) (tx tt : va_W) (hT : ∀ c ∈ tt, c ∈ tx) (hI : xI f a) (hG : gOK K g.2 tt) (dp : Int32) (bdp : kb 0 dp 8) (N i n s0 : Nat) (ob : Bool) (T pl : Nat → Int32) (hp0 : xQ f a N ob T pl) (hp1 : (f 1604).toInt = (i : Int)) (hp2 : i ≤ N) (hp3 : (f 1605).toInt = (n : Int) ∧ n ≤ 50) (hp4 : (f 1637).toInt = (s0 : Int) ∧ s0 ≤ i) (hp5 : dp.toInt + (d : Int) = 8) : kIG l yX4_readPlain (Cond.code yX4_readPlain cX4_readPlain 4 (some .boolean) :: kG) (rmD (2 * d + 9) 0 0) D K [.ref (r 50), .int dp] (xX K r f a g tx) (fun v (u : xS) => kb 0 v 1 ∧ xI u.1 u.2.1 ∧ gOK K u.2.2.2 tt ∧ xEk ([1604, 1605, 1637], [55], []) f a g u.1 u.2.1 u.2.2 ∧ (∃ i2 n2 : Nat, (u.1 1604).toInt = (i2 : Int) ∧ i ≤ i2 ∧ i2 ≤ N ∧ ((v = 1 ∧ ((u.1 1605).toInt = (n2 : Int) ∧ n2 ≤ 50) ∧ i < i2 ∧ pG ob T d 5 i n (true, i2, n2) ∧ cdP ob T d 5 i i2 s0 (a 55) (u.2.1 55) (u.1 1637) (2 * d + 4)) ∨ (v = 0 ∧ pG ob T d 5 i n (false, i2, 0))))) (fun u => xX K r u.1 u.2.1 u.2.2 tx) 0 0 := by
  refine kIE.of (cc := cX4_readPlain) (maxL := 4) (ret := (some .boolean)) (by decide) rfl (Nat.le_of_ble_eq_true rfl) ?_
  intro p e s m below meth c A hx hb hr hml hown hts hlocks hnm hK hP hD hS hA hV ls hl
  have hE : xEk ([1604, 1605, 1637], [55], []) f a g f a g := xEk_rf
  have hg : ∀ w ∈ kG, w.before _ s = true := fun w h => hts w (List.mem_cons_of_mem _ h)
  have hown : s.vm.findClass RX4 = some m.cls := hown
  have hl : lv_has ls 4 [(0, .ref (r 50)), (1, .int dp)] := hl
  have hk0 := hp0
  have hN4 := hp0.2.1
  obtain ⟨cz4, ecz4⟩ : ∃ z : Int32, z = f 1604 := ⟨_, rfl⟩
  have hg0 : cz4.toInt = (i : Int) := by rw [ecz4]; exact hp1
  have b1 : kb 0 cz4 400 := kb_pos hp2 hN4 hg0
  obtain ⟨cz5, ecz5⟩ : ∃ z : Int32, z = f 1605 := ⟨_, rfl⟩
  have hn5 : cz5.toInt = (n : Int) := by rw [ecz5]; exact hp3.1
  have hl5 := hp3.2
  have b2 : kb 0 cz5 50 := ⟨by omega, by omega⟩
  obtain ⟨cs, ecs⟩ : ∃ z : Int32, z = f 1637 := ⟨_, rfl⟩
  have hcs : cs.toInt = (s0 : Int) := by rw [ecs]; exact hp4.1
  have hsi := hp4.2
  refine lv_iconst (v := 0) hx hb dX4_readPlain_0 (by decide) ?_
  refine lv_istore_n (lv' := [(2, .int 0), (0, .ref (r 50)), (1, .int dp)]) hx hb dX4_readPlain_1 rfl hl (by decide) rfl (fun ls hl => ?_)
  refine lv_iconst (v := 0) hx hb dX4_readPlain_2 (by decide) ?_
  refine lv_istore_n (lv' := [(3, .int 0), (2, .int 0), (0, .ref (r 50)), (1, .int dp)]) hx hb dX4_readPlain_3 rfl hl (by decide) rfl (fun ls hl => ?_)
  have lp6 : ∀ (n7 : Nat) (i5 : Nat) (n5 : Nat) (ko : Nat) (F5 : Nat → Int32) (H : Heap) (locs : List Loc) (ls : Array Slot) (y3 : Int32) (y4 : Int32), (400 < y3.toInt + (n7 : Int)) → (xI F5 a) → (gOK K g.2 tt) → (xEk ([1604, 1605, 1637], [55], []) f a g F5 a g) → (xQ F5 a N ob T pl) → (kb 0 y3 400) → (kb 0 y4 1) → ((F5 1604).toInt = (i5 : Int)) → (i + ko ≤ i5 ∧ i5 ≤ N) → ((F5 1605).toInt = (n5 : Int) ∧ n5 ≤ 50) → (∀ r, pG ob T d 5 i5 n5 r → pG ob T d 5 i n r) → (y3.toInt = (ko : Int)) → ((F5 1637).toInt = (s0 : Int)) → (∀ j v, eG ob T d 5 i5 e1 j v → eG ob T d 5 i e1 j (if y4 = 1 then ntO v else v)) → (y4 = 0 ∨ i + 1 ≤ i5) → va_P D vwCl (xX K r F5 a g tx) H → va_D A (xX K r F5 a g tx) → va_S A s.heap H locs → lv_has ls 4 [(3, .int y3), (2, .int y4), (0, .ref (r 50)), (1, .int dp)] → W p l e (rmD (2 * d + 9) 0 0) s m ([.ref (r 50), .int dp] : List Value).toArray below meth c H locs 0 0 (kQi D (tysK K) (fun v (u : xS) => kb 0 v 1 ∧ xI u.1 u.2.1 ∧ gOK K u.2.2.2 tt ∧ xEk ([1604, 1605, 1637], [55], []) f a g u.1 u.2.1 u.2.2 ∧ (∃ i2 n2 : Nat, (u.1 1604).toInt = (i2 : Int) ∧ i ≤ i2 ∧ i2 ≤ N ∧ ((v = 1 ∧ ((u.1 1605).toInt = (n2 : Int) ∧ n2 ≤ 50) ∧ i < i2 ∧ pG ob T d 5 i n (true, i2, n2) ∧ cdP ob T d 5 i i2 s0 (a 55) (u.2.1 55) (u.1 1637) (2 * d + 4)) ∨ (v = 0 ∧ pG ob T d 5 i n (false, i2, 0))))) (fun u => xX K r u.1 u.2.1 u.2.2 tx) A below ([.ref (r 50), .int dp] : List Value).toArray s 0 0) (F0 m 4 ls []) := by
    intro n7
    induction n7 with
    | zero =>
      intro i5 n5 ko F5  H locs ls y3 y4 hmlp6 hI hG hE hk0 b8 b9 hvlp6_0 hvlp6_1 hvlp6_2 hvlp6_3 hvlp6_4 hvlp6_5 hvlp6_6 hvlp6_7 hP hD hS hl
      exact (by have h1 := b8.2; have h2 := hmlp6; omega : False).elim
    | succ n7 ihlp6 =>
      intro i5 n5 ko F5  H locs ls y3 y4 hmlp6 hI hG hE hk0 b8 b9 hvlp6_0 hvlp6_1 hvlp6_2 hvlp6_3 hvlp6_4 hvlp6_5 hvlp6_6 hvlp6_7 hP hD hS hl
      obtain ⟨gv10, egv10⟩ : ∃ z : Int32, z = F5 1604 := ⟨_, rfl⟩
      have hg11 : gv10.toInt = ((i5 : Nat) : Int) := by rw [egv10]; exact hvlp6_0
      have b12 : kb 0 gv10 400 := kb_pos hvlp6_1.2 hN4 hg11
      obtain ⟨z13, ez13⟩ : ∃ z : Int32, z = F5 1605 := ⟨_, rfl⟩
      have hzz13 : z13.toInt = ((n5 : Nat) : Int) := by rw [ez13]; exact hvlp6_2.1
      have b14 : kb 0 z13 50 := ⟨by omega, by have w1 := hvlp6_2.2; omega⟩
      have xc := hvlp6_3
      obtain ⟨zs15, ezs15⟩ : ∃ z : Int32, z = F5 1637 := ⟨_, rfl⟩
      have hzzs15 : zs15.toInt = ((s0 : Nat) : Int) := by rw [ezs15]; exact hvlp6_5
      have xv := hvlp6_6
      have htl := hvlp6_7
      refine lv_iload_n hx hb dX4_readPlain_4 rfl (lv_at hl 0 rfl) ?_
      refine lv_sipush (v := 400) hx hb dX4_readPlain_5 (by decide) ?_
      refine lv_icmp_ge (tgt := 47) hx hb dX4_readPlain_8 (by decide) (fun c16 => ?_) (fun c16 => ?_)
      · have h17 := (kc_le c16)
        have b18 : kb 400 y3 400 := kr_le2 h17 kc_400 b8
        have hn8 : ¬ T i5 = 2002 := by have w1 := kc_le c16; have w2 := hvlp6_4; have w3 := hvlp6_1; have w4 : (400 : Int32).toInt = 400 := (by decide +kernel); rw [hk0.2.2.2.2.2.1 i5 (by omega)]; decide +kernel
        refine lv_aload_n hx hb dX4_readPlain_47 rfl (lv_at hl 2 rfl) ?_
        refine kIG.callW (As := []) (rest := []) ⟨hx, hb, hml, hown, hg⟩ (y_inHand l r F5 a g tx tt hT hI hG   N (i5) ob T pl hk0 (by rw [egv10.symm]; exact hg11) hvlp6_1.2) (cwV 0 hg (kgV wt3_238 wt4_0 wp1_12 wt1_7 wt4_1) rfl rfl rfl (by decide +kernel) ⟨by dsimp only [rmD]; omega, by dsimp only [rmD]; omega⟩) hV hK hP hD hS hA (50) 4 rfl rfl rfl hl.1 rfl (Nat.le_of_ble_eq_true rfl) dX4_readPlain_48 ⟨Nat.le_refl _, Nat.le_refl _⟩ (fun v20 u21 H locs hw19 hP hD hS => ?_)
        have hP : va_P D vwCl (xX K r F5 a g tx) H := hP
        have hD : va_D A (xX K r F5 a g tx) := hD
        have b22 : kb 0 v20 4000 := kb_eq hw19.2 (hk0.2.2.2.2.2.2 (i5))
        refine lv_sipush (v := 3040) hx hb dX4_readPlain_51 (by decide) ?_
        refine lv_icmp_ne (tgt := 110) hx hb dX4_readPlain_54 (by decide) (fun c23 => ?_) (fun c23 => ?_)
        · refine lv_aload_n hx hb dX4_readPlain_110 rfl (lv_at hl 2 rfl) ?_
          refine lv_iload_n hx hb dX4_readPlain_111 rfl (lv_at hl 3 rfl) ?_
          refine kIG.callW (As := [.int dp]) (rest := []) ⟨hx, hb, hml, hown, hg⟩ (hsum l r F5 a g tx tt hT hI hG dp bdp N (i5) (n5) (s0) ob T pl hk0 (by rw [egv10.symm]; exact hg11) hvlp6_1.2 ⟨(by rw [ez13.symm]; exact hzz13), hvlp6_2.2⟩ ⟨(by show (F5 1637).toInt = ((s0 : Nat) : Int); rw [ezs15.symm]; exact hzzs15), (by omega)⟩ hp5) (cwV 1 hg (kgV wt4_6 wt4_8 wp1_13 wt1_7 wt4_9) rfl rfl rfl (by decide +kernel) ⟨by dsimp only [rmD]; omega, by dsimp only [rmD]; omega⟩) hV hK hP hD hS hA (50) 4 rfl rfl rfl hl.1 rfl (Nat.le_of_ble_eq_true rfl) dX4_readPlain_112 ⟨Nat.le_refl _, Nat.le_refl _⟩ (fun v25 u26 H locs hw24 hP hD hS => ?_)
          obtain ⟨f27, a28, g29⟩ := u26
          have hP : va_P D vwCl (xX K r f27 a28 g29 tx) H := hP
          have hD : va_D A (xX K r f27 a28 g29 tx) := hD
          have hI : xI f27 a28 := hw24.2.1
          have hG : gOK K g29.2 tt := hw24.2.2.1
          have eE30 : xEk ([1604, 1605, 1637], [55], []) F5 a g f27 a28 g29 := hw24.2.2.2.1
          have hE : xEk ([1604, 1605, 1637], [55], []) f a g f27 a28 g29 := xEk_tr hE eE30
          have hk0 : xQ f27 a28 N ob T pl := xQ_c hk0 (eE30.1 1603 rfl) (eE30.1 1606 rfl) ⟨eE30.2.1 56 rfl, eE30.2.1 57 rfl⟩
          obtain ⟨ik31, nk31, hgk31, hlek31, hNk31, hck31⟩ := hw24.2.2.2.2
          rcases hck31 with ⟨hvk31, h3k31, hltk31, hGk31, hcdk31⟩ | ⟨hvk31, hGk31⟩
          · refine k_top (z := 1) hvk31 ?_
            obtain ⟨gv32, egv32⟩ : ∃ z : Int32, z = f27 1604 := ⟨_, rfl⟩
            have hg33 : gv32.toInt = ((ik31 : Nat) : Int) := by rw [egv32]; exact hgk31
            have b34 : kb 0 gv32 400 := kb_pos hNk31 hN4 hg33
            obtain ⟨z35, ez35⟩ : ∃ z : Int32, z = f27 1605 := ⟨_, rfl⟩
            have hzz35 : z35.toInt = ((nk31 : Nat) : Int) := by rw [ez35]; exact h3k31.1
            have b36 : kb 0 z35 50 := ⟨by omega, by have w1 := h3k31.2; omega⟩
            obtain ⟨sk31, wk31, hzk31, hlk31, hqk31, hek31, hrk31⟩ := hcdk31
            obtain ⟨zs37, ezs37⟩ : ∃ z : Int32, z = f27 1637 := ⟨_, rfl⟩
            have hzzs37 : zs37.toInt = ((sk31 : Nat) : Int) := by rw [ezs37]; exact hzk31
            refine lv_if_ne (tgt := 120) hx hb dX4_readPlain_115 (by decide) (fun c38 => ?_) (fun c38 => ?_)
            · refine lv_aload_n hx hb dX4_readPlain_120 rfl (lv_at hl 2 rfl) ?_
              refine kIG.callW (As := []) (rest := []) ⟨hx, hb, hml, hown, hg⟩ (y_inHand l r f27 a28 g29 tx tt hT hI hG   N (ik31) ob T pl hk0 (by rw [egv32.symm]; exact hg33) hNk31) (cwV 0 hg (kgV wt3_238 wt4_0 wp1_12 wt1_7 wt4_1) rfl rfl rfl (by decide +kernel) ⟨by dsimp only [rmD]; omega, by dsimp only [rmD]; omega⟩) hV hK hP hD hS hA (50) 4 rfl rfl rfl hl.1 rfl (Nat.le_of_ble_eq_true rfl) dX4_readPlain_121 ⟨Nat.le_refl _, Nat.le_refl _⟩ (fun v40 u41 H locs hw39 hP hD hS => ?_)
              have hP : va_P D vwCl (xX K r f27 a28 g29 tx) H := hP
              have hD : va_D A (xX K r f27 a28 g29 tx) := hD
              have b42 : kb 0 v40 4000 := kb_eq hw39.2 (hk0.2.2.2.2.2.2 (ik31))
              refine lv_sipush (v := 3060) hx hb dX4_readPlain_124 (by decide) ?_
              refine lv_icmp_ne (tgt := 135) hx hb dX4_readPlain_127 (by decide) (fun c43 => ?_) (fun c43 => ?_)
              · refine lv_aload_n hx hb dX4_readPlain_135 rfl (lv_at hl 2 rfl) ?_
                refine kIG.callW (As := []) (rest := []) ⟨hx, hb, hml, hown, hg⟩ (y_inHand l r f27 a28 g29 tx tt hT hI hG   N (ik31) ob T pl hk0 (by rw [egv32.symm]; exact hg33) hNk31) (cwV 0 hg (kgV wt3_238 wt4_0 wp1_12 wt1_7 wt4_1) rfl rfl rfl (by decide +kernel) ⟨by dsimp only [rmD]; omega, by dsimp only [rmD]; omega⟩) hV hK hP hD hS hA (50) 4 rfl rfl rfl hl.1 rfl (Nat.le_of_ble_eq_true rfl) dX4_readPlain_136 ⟨Nat.le_refl _, Nat.le_refl _⟩ (fun v45 u46 H locs hw44 hP hD hS => ?_)
                have hP : va_P D vwCl (xX K r f27 a28 g29 tx) H := hP
                have hD : va_D A (xX K r f27 a28 g29 tx) := hD
                have b47 : kb 0 v45 4000 := kb_eq hw44.2 (hk0.2.2.2.2.2.2 (ik31))
                refine lv_sipush (v := 3062) hx hb dX4_readPlain_139 (by decide) ?_
                refine lv_icmp_ne (tgt := 150) hx hb dX4_readPlain_142 (by decide) (fun c48 => ?_) (fun c48 => ?_)
                · refine lv_aload_n hx hb dX4_readPlain_150 rfl (lv_at hl 2 rfl) ?_
                  refine kIG.callW (As := []) (rest := []) ⟨hx, hb, hml, hown, hg⟩ (y_inHand l r f27 a28 g29 tx tt hT hI hG   N (ik31) ob T pl hk0 (by rw [egv32.symm]; exact hg33) hNk31) (cwV 0 hg (kgV wt3_238 wt4_0 wp1_12 wt1_7 wt4_1) rfl rfl rfl (by decide +kernel) ⟨by dsimp only [rmD]; omega, by dsimp only [rmD]; omega⟩) hV hK hP hD hS hA (50) 4 rfl rfl rfl hl.1 rfl (Nat.le_of_ble_eq_true rfl) dX4_readPlain_151 ⟨Nat.le_refl _, Nat.le_refl _⟩ (fun v50 u51 H locs hw49 hP hD hS => ?_)
                  have hP : va_P D vwCl (xX K r f27 a28 g29 tx) H := hP
                  have hD : va_D A (xX K r f27 a28 g29 tx) := hD
                  have b52 : kb 0 v50 4000 := kb_eq hw49.2 (hk0.2.2.2.2.2.2 (ik31))
                  refine lv_sipush (v := 3061) hx hb dX4_readPlain_154 (by decide) ?_
                  refine lv_icmp_ne (tgt := 165) hx hb dX4_readPlain_157 (by decide) (fun c53 => ?_) (fun c53 => ?_)
                  · refine lv_iconst (v := (-1)) hx hb dX4_readPlain_165 (by decide) ?_
                    refine lv_istore_n (lv' := [(3, .int (-1)), (2, .int y4), (0, .ref (r 50)), (1, .int dp)]) hx hb dX4_readPlain_166 rfl hl (by decide) rfl (fun ls hl => ?_)
                    refine lv_iload_n hx hb dX4_readPlain_167 rfl (lv_at hl 0 rfl) ?_
                    refine lv_iconst (v := (-1)) hx hb dX4_readPlain_168 (by decide) ?_
                    refine lv_icmp_ne (tgt := 174) hx hb dX4_readPlain_169 (by decide) (fun c54 => ?_) (fun c54 => ?_)
                    · exact kb_nsame c54 kc_m1 kc_m1
                    · refine lv_iconst (v := 0) hx hb dX4_readPlain_172 (by decide) ?_
                      exact kI_ret (v := 0) hx hb hr hlocks (by decide +kernel) hK hS dX4_readPlain_173 (f27, a28, g29) hP hD ⟨(kb_w kc_0 (by decide) (by decide)), hI, hG, hE, ⟨ik31, 0, (by show (f27 1604).toInt = ((ik31 : Nat) : Int); rw [egv32.symm]; exact hg33), (Nat.le_trans (Nat.le_trans (Nat.le_add_right _ _) hvlp6_1.1) hlek31), hNk31, Or.inr ⟨rfl, xc _ (pi_5n hn8 (pi_10n (fun q => c23 (hw19.2.trans q)) hGk31 (fun q => q.elim (fun q => c43 (hw39.2.trans q)) (fun q => q.elim (fun q => c48 (hw44.2.trans q)) (fun q => c53 (hw49.2.trans q))))))⟩⟩⟩
                  · have b55 : kb 3061 v50 3061 := kb_eq c53 kc_3061
                    refine lv_bipush (v := 12) hx hb dX4_readPlain_160 (by decide) ?_
                    refine lv_goto (tgt := 166) hx hb dX4_readPlain_162 (by decide) ?_
                    refine lv_istore_n (lv' := [(3, .int 12), (2, .int y4), (0, .ref (r 50)), (1, .int dp)]) hx hb dX4_readPlain_166 rfl hl (by decide) rfl (fun ls hl => ?_)
                    refine lv_iload_n hx hb dX4_readPlain_167 rfl (lv_at hl 0 rfl) ?_
                    refine lv_iconst (v := (-1)) hx hb dX4_readPlain_168 (by decide) ?_
                    refine lv_icmp_ne (tgt := 174) hx hb dX4_readPlain_169 (by decide) (fun c56 => ?_) (fun c56 => ?_)
                    · refine lv_aload_n hx hb dX4_readPlain_174 rfl (lv_at hl 2 rfl) ?_
                      refine lv_dup hx hb dX4_readPlain_175 rfl ?_
                      have hlt57 : ik31 < N := xQ_lt hk0 (ne_4000 (hw49.2.symm.trans c53) (by decide +kernel))
                      have b58 : kb 0 gv32 399 := kb_pos1 hlt57 hN4 hg33
                      refine va_get (D := D) (ci := 4) (v := .int (f27 1604)) (C := RX4) (T := TX4) (N := 7) hx hb hg inC4 hown hK hP 50 rfl rfl 4 (by decide) (hg _ wt2_69) (fun _ h9 => h9) rfl dX4_readPlain_176 ?_
                      refine k_top (z := gv32) egv32.symm ?_
                      refine lv_iconst (v := 1) hx hb dX4_readPlain_179 (by decide) ?_
                      refine lv_iadd hx hb dX4_readPlain_180 ?_
                      refine lv_topi (fun t59 et59 => ?_)
                      have b60 : kb 1 t59 400 := kb_eq et59 (kb_add b58 kc_1 (by decide) (by decide))
                      have qt59 : t59.toInt = gv32.toInt + 1 := by rw [et59]; exact kt_addc b58 kc_1 (by decide) (by decide)
                      have hg61 : t59.toInt = ((ik31 + 1 : Nat) : Int) := by rw [qt59, hg33]; omega
                      refine va_put (D := D) (ci := 4) (v := .int t59) (ty := .int) (C := RX4) (T := TX4) (N := 7) hx hb hg inC4 tyX4 tyX4_ok nmX4 hown hK hP hD hS 50 rfl rfl 4 (by decide) (hg _ wt2_69) (fun _ h9 => h9) rfl (by decide +kernel) rfl rfl (Nat.le_of_ble_eq_true rfl) dX4_readPlain_181 (fun H locs hP hD hS => ?_)
                      have hP : va_P D vwCl (xX K r (upd f27 1604 t59) a28 g29 tx) H := hP
                      have hD : va_D A (xX K r (upd f27 1604 t59) a28 g29 tx) := hD
                      refine k_gen (P := fun z => va_P D vwCl (xX K r z a28 g29 tx) H ∧ va_D A (xX K r z a28 g29 tx) ∧ (xI z a28) ∧ (gOK K g29.2 tt) ∧ (xEk ([1604, 1605, 1637], [55], []) f a g z a28 g29) ∧ (xQ z a28 N ob T pl)) (upd f27 1604 t59) ⟨hP, hD, (xI_f hI (fI_st hI.1 1604 (kb_any _) (by decide) (by decide))), hG, (xEk_f hE rfl), (xQ_f hk0 (by decide) (by decide))⟩ (fun f_62 ef_62 hq => ?_)
                      obtain ⟨hP, hD, hI, hG, hE, hk0⟩ := hq
                      refine lv_aload_n hx hb dX4_readPlain_184 rfl (lv_at hl 2 rfl) ?_
                      refine lv_iload_n hx hb dX4_readPlain_185 rfl (lv_at hl 3 rfl) ?_
                      refine kIG.callW (As := [.int dp]) (rest := []) ⟨hx, hb, hml, hown, hg⟩ (hsum l r f_62 a28 g29 tx tt hT hI hG dp bdp N (ik31 + 1) (nk31) (sk31) ob T pl hk0 (by rw [(show f_62 1604 = t59 from by rw [← ef_62]; rfl)]; exact hg61) hlt57 ⟨(by rw [((show f_62 1605 = f27 1605 from by rw [← ef_62]; rfl).trans ez35.symm)]; exact hzz35), h3k31.2⟩ ⟨(by show (f_62 1637).toInt = ((sk31 : Nat) : Int); rw [((show f_62 1637 = f27 1637 from by rw [← ef_62]; rfl).trans ezs37.symm)]; exact hzzs37), (by omega)⟩ hp5) (cwV 1 hg (kgV wt4_6 wt4_8 wp1_13 wt1_7 wt4_9) rfl rfl rfl (by decide +kernel) ⟨by dsimp only [rmD]; omega, by dsimp only [rmD]; omega⟩) hV hK hP hD hS hA (50) 4 rfl rfl rfl hl.1 rfl (Nat.le_of_ble_eq_true rfl) dX4_readPlain_186 ⟨Nat.le_refl _, Nat.le_refl _⟩ (fun v64 u65 H locs hw63 hP hD hS => ?_)
                      obtain ⟨f66, a67, g68⟩ := u65
                      have hP : va_P D vwCl (xX K r f66 a67 g68 tx) H := hP
                      have hD : va_D A (xX K r f66 a67 g68 tx) := hD
                      have hI : xI f66 a67 := hw63.2.1
                      have hG : gOK K g68.2 tt := hw63.2.2.1
                      have eE69 : xEk ([1604, 1605, 1637], [55], []) f_62 a28 g29 f66 a67 g68 := hw63.2.2.2.1
                      have hE : xEk ([1604, 1605, 1637], [55], []) f a g f66 a67 g68 := xEk_tr hE eE69
                      have hk0 : xQ f66 a67 N ob T pl := xQ_c hk0 (eE69.1 1603 rfl) (eE69.1 1606 rfl) ⟨eE69.2.1 56 rfl, eE69.2.1 57 rfl⟩
                      obtain ⟨ik70, nk70, hgk70, hlek70, hNk70, hck70⟩ := hw63.2.2.2.2
                      rcases hck70 with ⟨hvk70, h3k70, hltk70, hGk70, hcdk70⟩ | ⟨hvk70, hGk70⟩
                      · refine k_top (z := 1) hvk70 ?_
                        obtain ⟨gv71, egv71⟩ : ∃ z : Int32, z = f66 1604 := ⟨_, rfl⟩
                        have hg72 : gv71.toInt = ((ik70 : Nat) : Int) := by rw [egv71]; exact hgk70
                        have b73 : kb 0 gv71 400 := kb_pos hNk70 hN4 hg72
                        obtain ⟨z74, ez74⟩ : ∃ z : Int32, z = f66 1605 := ⟨_, rfl⟩
                        have hzz74 : z74.toInt = ((nk70 : Nat) : Int) := by rw [ez74]; exact h3k70.1
                        have b75 : kb 0 z74 50 := ⟨by omega, by have w1 := h3k70.2; omega⟩
                        obtain ⟨sk70, wk70, hzk70, hlk70, hqk70, hek70, hrk70⟩ := hcdk70
                        obtain ⟨zs76, ezs76⟩ : ∃ z : Int32, z = f66 1637 := ⟨_, rfl⟩
                        have hzzs76 : zs76.toInt = ((sk70 : Nat) : Int) := by rw [ezs76]; exact hzk70
                        refine lv_if_ne (tgt := 194) hx hb dX4_readPlain_189 (by decide) (fun c77 => ?_) (fun c77 => ?_)
                        · refine lv_aload_n hx hb dX4_readPlain_194 rfl (lv_at hl 2 rfl) ?_
                          refine va_get (D := D) (ci := 4) (v := .ref (r 51)) (C := RX4) (T := TX4) (N := 7) hx hb hg inC4 hown hK hP 50 rfl rfl 0 (by decide) (hg _ wt2_64) (fun _ h9 => h9) rfl dX4_readPlain_195 ?_
                          refine lv_iload_n hx hb dX4_readPlain_198 rfl (lv_at hl 0 rfl) ?_
                          refine lv_iconst (v := 0) hx hb dX4_readPlain_199 (by decide) ?_
                          refine kIG.callW (As := [.int 12, .int 0]) (rest := []) ⟨hx, hb, hml, hown, hg⟩ (y_emit l r f66 a67 g68 tx tt hT hI hG 12 0 (kb_w kc_12 (by decide) (by decide)) (kb_w kc_0 (by decide) (by decide)) (sk70) (by show (f66 1637).toInt = ((sk70 : Nat) : Int); rw [ezs76.symm]; exact hzzs76) (by omega)) (cwV 2 hg (kgV wt4_14 wt4_15 wt4_16 wt1_8 wt4_17) rfl rfl rfl (by decide +kernel) ⟨by dsimp only [rmD]; omega, by dsimp only [rmD]; omega⟩) hV hK hP hD hS hA (51) 10 rfl rfl rfl hl.1 rfl (Nat.le_of_ble_eq_true rfl) dX4_readPlain_200 ⟨Nat.le_refl _, Nat.le_refl _⟩ (fun v79 u80 H locs hw78 hP hD hS => ?_)
                          obtain ⟨f81, a82, g83⟩ := u80
                          have hP : va_P D vwCl (xX K r f81 a82 g83 tx) H := hP
                          have hD : va_D A (xX K r f81 a82 g83 tx) := hD
                          have hI : xI f81 a82 := hw78.2.1
                          have hG : gOK K g83.2 tt := hw78.2.2.1
                          have eE84 : xEk ([1637], [55], []) f66 a67 g68 f81 a82 g83 := hw78.2.2.2.1
                          have hE : xEk ([1604, 1605, 1637], [55], []) f a g f81 a82 g83 := xEk_tr hE (xEk_w (by decide +kernel) eE84)
                          have hk0 : xQ f81 a82 N ob T pl := xQ_c hk0 (eE84.1 1603 rfl) (eE84.1 1606 rfl) ⟨eE84.2.1 56 rfl, eE84.2.1 57 rfl⟩
                          obtain ⟨zs85, ezs85⟩ : ∃ z : Int32, z = f81 1637 := ⟨_, rfl⟩
                          have hzzs85 : zs85.toInt = ((sk70 + 1 : Nat) : Int) := by rw [ezs85]; exact hw78.2.2.2.2.2.1
                          have hj86 := rn_jn (rn_cg hrk31 (fun p h5 h6 => (hw78.2.2.2.2.2.2.2 p (by have w1 := hrk70.1; omega)).trans (hqk70 p h6))) (rn_cg hrk70 (fun p h5 h6 => hw78.2.2.2.2.2.2.2 p (by omega))) (n := opC (T (ik31))) (by rw [hw78.2.2.2.2.2.2.1, (hw49.2.symm.trans c53)]; decide +kernel) (opC_b _).1 (opC_b _).2 (by omega)
                          refine lv_pop hx hb dX4_readPlain_203 rfl ?_
                          refine lv_aload_n hx hb dX4_readPlain_204 rfl (lv_at hl 2 rfl) ?_
                          refine lv_iload_n hx hb dX4_readPlain_205 rfl (lv_at hl 1 rfl) ?_
                          refine lv_if_eq (tgt := 213) hx hb dX4_readPlain_206 (by decide) (fun c87 => ?_) (fun c87 => ?_)
                          · have b88 : kb 0 y4 0 := kb_eq c87 kc_0
                            refine lv_iconst (v := (-1)) hx hb dX4_readPlain_213 (by decide) ?_
                            refine kVG.callW (As := [.int (-1)]) (rest := []) ⟨hx, hb, hml, hown, hg⟩ (y_emitIfAny l r f81 a82 g83 tx tt hT hI hG (-1) (kb_w kc_m1 (by decide) (by decide)) (sk70 + 1) (by show (f81 1637).toInt = ((sk70 + 1 : Nat) : Int); rw [ezs85.symm]; exact hzzs85) (Or.inl rfl)) (cwV 1 hg (kgV wt4_26 wt4_28 wp2_1 wt1_7 wt4_29) rfl rfl rfl (by decide +kernel) ⟨by dsimp only [rmD]; omega, by dsimp only [rmD]; omega⟩) hV hK hP hD hS hA (50) 4 rfl rfl rfl hl.1 rfl (Nat.le_of_ble_eq_true rfl) dX4_readPlain_214 ⟨Nat.le_refl _, Nat.le_refl _⟩ (fun u91 H locs hw89 hP hD hS => ?_)
                            obtain ⟨f92, a93, g94⟩ := u91
                            have hP : va_P D vwCl (xX K r f92 a93 g94 tx) H := hP
                            have hD : va_D A (xX K r f92 a93 g94 tx) := hD
                            have hI : xI f92 a93 := hw89.1
                            have hG : gOK K g94.2 tt := hw89.2.1
                            have eE95 : xEk ([1637], [55], []) f81 a82 g83 f92 a93 g94 := hw89.2.2.1
                            have hE : xEk ([1604, 1605, 1637], [55], []) f a g f92 a93 g94 := xEk_tr hE (xEk_w (by decide +kernel) eE95)
                            have hk0 : xQ f92 a93 N ob T pl := xQ_c hk0 (eE95.1 1603 rfl) (eE95.1 1606 rfl) ⟨eE95.2.1 56 rfl, eE95.2.1 57 rfl⟩
                            obtain ⟨sk96, hzk96, hemk96⟩ := hw89.2.2.2
                            obtain ⟨zs97, ezs97⟩ : ∃ z : Int32, z = f92 1637 := ⟨_, rfl⟩
                            have hzzs97 : zs97.toInt = ((sk96 : Nat) : Int) := by rw [ezs97]; exact hzk96
                            refine lv_iconst (v := 1) hx hb dX4_readPlain_217 (by decide) ?_
                            exact kI_ret (v := 1) hx hb hr hlocks (by decide +kernel) hK hS dX4_readPlain_218 (f92, a93, g94) hP hD ⟨(kb_w kc_1 (by decide) (by decide)), hI, hG, hE, ⟨ik70, nk70, (by show (f92 1604).toInt = ((ik70 : Nat) : Int); rw [((eE95.1 1604 rfl).trans ((eE84.1 1604 rfl).trans egv71.symm))]; exact hg72), (Nat.le_trans (Nat.le_succ_of_le (Nat.le_trans (Nat.le_trans (Nat.le_add_right _ _) hvlp6_1.1) hlek31)) hlek70), hNk70, Or.inl ⟨rfl, ⟨(by show (f92 1605).toInt = ((nk70 : Nat) : Int); rw [((eE95.1 1605 rfl).trans ((eE84.1 1605 rfl).trans ez74.symm))]; exact hzz74), h3k70.2⟩, (by omega), xc _ (pi_5n hn8 (pi_10c (fun q => c23 (hw19.2.trans q)) hGk31 (Or.inr (Or.inr (hw49.2.symm.trans c53))) hGk70)), (pl_n hemk96 (by show (f92 1637).toInt = ((sk96 : Nat) : Int); rw [ezs97.symm]; exact hzzs97) hj86 (by have w1 := hlk31; have w2 := hlk70; omega) (fun p hp => (hw78.2.2.2.2.2.2.2 p (by have w1 := hrk31.1; have w2 := hrk70.1; omega)).trans ((hqk70 p (by have w1 := hrk31.1; omega)).trans (hqk31 p hp))) (by have w1 := xv _ _ (ei_5n hn8 (ei_10c (fun q => c23 (hw19.2.trans q)) hek31 (Or.inr (Or.inr (hw49.2.symm.trans c53))) hek70)); rw [if_neg (by rw [c87]; decide)] at w1; exact w1) (Nat.le_trans (Nat.le_add_right _ _) hvlp6_1.1))⟩⟩⟩
                          · have b98 : kb 1 y4 1 := kr_nel c87 b9 kc_0 (by decide)
                            refine lv_iconst (v := 2) hx hb dX4_readPlain_209 (by decide) ?_
                            refine lv_goto (tgt := 214) hx hb dX4_readPlain_210 (by decide) ?_
                            refine kVG.callW (As := [.int 2]) (rest := []) ⟨hx, hb, hml, hown, hg⟩ (y_emitIfAny l r f81 a82 g83 tx tt hT hI hG 2 (kb_w kc_2 (by decide) (by decide)) (sk70 + 1) (by show (f81 1637).toInt = ((sk70 + 1 : Nat) : Int); rw [ezs85.symm]; exact hzzs85) (Or.inr (by have w1 := htl.resolve_left (fun q => by have w2 := (b98).1; rw [q] at w2; exact absurd w2 (by decide +kernel)); omega))) (cwV 1 hg (kgV wt4_26 wt4_28 wp2_1 wt1_7 wt4_29) rfl rfl rfl (by decide +kernel) ⟨by dsimp only [rmD]; omega, by dsimp only [rmD]; omega⟩) hV hK hP hD hS hA (50) 4 rfl rfl rfl hl.1 rfl (Nat.le_of_ble_eq_true rfl) dX4_readPlain_214 ⟨Nat.le_refl _, Nat.le_refl _⟩ (fun u101 H locs hw99 hP hD hS => ?_)
                            obtain ⟨f102, a103, g104⟩ := u101
                            have hP : va_P D vwCl (xX K r f102 a103 g104 tx) H := hP
                            have hD : va_D A (xX K r f102 a103 g104 tx) := hD
                            have hI : xI f102 a103 := hw99.1
                            have hG : gOK K g104.2 tt := hw99.2.1
                            have eE105 : xEk ([1637], [55], []) f81 a82 g83 f102 a103 g104 := hw99.2.2.1
                            have hE : xEk ([1604, 1605, 1637], [55], []) f a g f102 a103 g104 := xEk_tr hE (xEk_w (by decide +kernel) eE105)
                            have hk0 : xQ f102 a103 N ob T pl := xQ_c hk0 (eE105.1 1603 rfl) (eE105.1 1606 rfl) ⟨eE105.2.1 56 rfl, eE105.2.1 57 rfl⟩
                            obtain ⟨sk106, hzk106, hemk106⟩ := hw99.2.2.2
                            obtain ⟨zs107, ezs107⟩ : ∃ z : Int32, z = f102 1637 := ⟨_, rfl⟩
                            have hzzs107 : zs107.toInt = ((sk106 : Nat) : Int) := by rw [ezs107]; exact hzk106
                            refine lv_iconst (v := 1) hx hb dX4_readPlain_217 (by decide) ?_
                            exact kI_ret (v := 1) hx hb hr hlocks (by decide +kernel) hK hS dX4_readPlain_218 (f102, a103, g104) hP hD ⟨(kb_w kc_1 (by decide) (by decide)), hI, hG, hE, ⟨ik70, nk70, (by show (f102 1604).toInt = ((ik70 : Nat) : Int); rw [((eE105.1 1604 rfl).trans ((eE84.1 1604 rfl).trans egv71.symm))]; exact hg72), (Nat.le_trans (Nat.le_succ_of_le (Nat.le_trans (Nat.le_trans (Nat.le_add_right _ _) hvlp6_1.1) hlek31)) hlek70), hNk70, Or.inl ⟨rfl, ⟨(by show (f102 1605).toInt = ((nk70 : Nat) : Int); rw [((eE105.1 1605 rfl).trans ((eE84.1 1605 rfl).trans ez74.symm))]; exact hzz74), h3k70.2⟩, (by omega), xc _ (pi_5n hn8 (pi_10c (fun q => c23 (hw19.2.trans q)) hGk31 (Or.inr (Or.inr (hw49.2.symm.trans c53))) hGk70)), (pl_y hemk106 (by show (f102 1637).toInt = ((sk106 : Nat) : Int); rw [ezs107.symm]; exact hzzs107) hj86 (pl_l (by have w1 := hlk31; have w2 := hlk70; omega) (htl.resolve_left (fun q => by have w2 := (b98).1; rw [q] at w2; exact absurd w2 (by decide +kernel)))) (fun p hp => (hw78.2.2.2.2.2.2.2 p (by have w1 := hrk31.1; have w2 := hrk70.1; omega)).trans ((hqk70 p (by have w1 := hrk31.1; omega)).trans (hqk31 p hp))) (by have w1 := xv _ _ (ei_5n hn8 (ei_10c (fun q => c23 (hw19.2.trans q)) hek31 (Or.inr (Or.inr (hw49.2.symm.trans c53))) hek70)); rw [if_pos (kb_11 b98)] at w1; exact w1))⟩⟩⟩
                        · exact kb_dj c77 kc_1 kc_0 (by decide)
                      · refine k_top (z := 0) hvk70 ?_
                        obtain ⟨gv108, egv108⟩ : ∃ z : Int32, z = f66 1604 := ⟨_, rfl⟩
                        have hg109 : gv108.toInt = ((ik70 : Nat) : Int) := by rw [egv108]; exact hgk70
                        have b110 : kb 0 gv108 400 := kb_pos hNk70 hN4 hg109
                        refine lv_if_ne (tgt := 194) hx hb dX4_readPlain_189 (by decide) (fun c111 => ?_) (fun c111 => ?_)
                        · exact kb_nsame c111 kc_0 kc_0
                        · refine lv_iconst (v := 0) hx hb dX4_readPlain_192 (by decide) ?_
                          exact kI_ret (v := 0) hx hb hr hlocks (by decide +kernel) hK hS dX4_readPlain_193 (f66, a67, g68) hP hD ⟨(kb_w kc_0 (by decide) (by decide)), hI, hG, hE, ⟨ik70, 0, (by show (f66 1604).toInt = ((ik70 : Nat) : Int); rw [egv108.symm]; exact hg109), (Nat.le_trans (Nat.le_succ_of_le (Nat.le_trans (Nat.le_trans (Nat.le_add_right _ _) hvlp6_1.1) hlek31)) hlek70), hNk70, Or.inr ⟨rfl, xc _ (pi_5n hn8 (pi_10c (fun q => c23 (hw19.2.trans q)) hGk31 (Or.inr (Or.inr (hw49.2.symm.trans c53))) hGk70))⟩⟩⟩
                    · exact kb_dj c56 kc_12 kc_m1 (by decide)
                · have b112 : kb 3062 v45 3062 := kb_eq c48 kc_3062
                  refine lv_bipush (v := 11) hx hb dX4_readPlain_145 (by decide) ?_
                  refine lv_goto (tgt := 166) hx hb dX4_readPlain_147 (by decide) ?_
                  refine lv_istore_n (lv' := [(3, .int 11), (2, .int y4), (0, .ref (r 50)), (1, .int dp)]) hx hb dX4_readPlain_166 rfl hl (by decide) rfl (fun ls hl => ?_)
                  refine lv_iload_n hx hb dX4_readPlain_167 rfl (lv_at hl 0 rfl) ?_
                  refine lv_iconst (v := (-1)) hx hb dX4_readPlain_168 (by decide) ?_
                  refine lv_icmp_ne (tgt := 174) hx hb dX4_readPlain_169 (by decide) (fun c113 => ?_) (fun c113 => ?_)
                  · refine lv_aload_n hx hb dX4_readPlain_174 rfl (lv_at hl 2 rfl) ?_
                    refine lv_dup hx hb dX4_readPlain_175 rfl ?_
                    have hlt114 : ik31 < N := xQ_lt hk0 (ne_4000 (hw44.2.symm.trans c48) (by decide +kernel))
                    have b115 : kb 0 gv32 399 := kb_pos1 hlt114 hN4 hg33
                    refine va_get (D := D) (ci := 4) (v := .int (f27 1604)) (C := RX4) (T := TX4) (N := 7) hx hb hg inC4 hown hK hP 50 rfl rfl 4 (by decide) (hg _ wt2_69) (fun _ h9 => h9) rfl dX4_readPlain_176 ?_
                    refine k_top (z := gv32) egv32.symm ?_
                    refine lv_iconst (v := 1) hx hb dX4_readPlain_179 (by decide) ?_
                    refine lv_iadd hx hb dX4_readPlain_180 ?_
                    refine lv_topi (fun t116 et116 => ?_)
                    have b117 : kb 1 t116 400 := kb_eq et116 (kb_add b115 kc_1 (by decide) (by decide))
                    have qt116 : t116.toInt = gv32.toInt + 1 := by rw [et116]; exact kt_addc b115 kc_1 (by decide) (by decide)
                    have hg118 : t116.toInt = ((ik31 + 1 : Nat) : Int) := by rw [qt116, hg33]; omega
                    refine va_put (D := D) (ci := 4) (v := .int t116) (ty := .int) (C := RX4) (T := TX4) (N := 7) hx hb hg inC4 tyX4 tyX4_ok nmX4 hown hK hP hD hS 50 rfl rfl 4 (by decide) (hg _ wt2_69) (fun _ h9 => h9) rfl (by decide +kernel) rfl rfl (Nat.le_of_ble_eq_true rfl) dX4_readPlain_181 (fun H locs hP hD hS => ?_)
                    have hP : va_P D vwCl (xX K r (upd f27 1604 t116) a28 g29 tx) H := hP
                    have hD : va_D A (xX K r (upd f27 1604 t116) a28 g29 tx) := hD
                    refine k_gen (P := fun z => va_P D vwCl (xX K r z a28 g29 tx) H ∧ va_D A (xX K r z a28 g29 tx) ∧ (xI z a28) ∧ (gOK K g29.2 tt) ∧ (xEk ([1604, 1605, 1637], [55], []) f a g z a28 g29) ∧ (xQ z a28 N ob T pl)) (upd f27 1604 t116) ⟨hP, hD, (xI_f hI (fI_st hI.1 1604 (kb_any _) (by decide) (by decide))), hG, (xEk_f hE rfl), (xQ_f hk0 (by decide) (by decide))⟩ (fun f_119 ef_119 hq => ?_)
                    obtain ⟨hP, hD, hI, hG, hE, hk0⟩ := hq
                    refine lv_aload_n hx hb dX4_readPlain_184 rfl (lv_at hl 2 rfl) ?_
                    refine lv_iload_n hx hb dX4_readPlain_185 rfl (lv_at hl 3 rfl) ?_
                    refine kIG.callW (As := [.int dp]) (rest := []) ⟨hx, hb, hml, hown, hg⟩ (hsum l r f_119 a28 g29 tx tt hT hI hG dp bdp N (ik31 + 1) (nk31) (sk31) ob T pl hk0 (by rw [(show f_119 1604 = t116 from by rw [← ef_119]; rfl)]; exact hg118) hlt114 ⟨(by rw [((show f_119 1605 = f27 1605 from by rw [← ef_119]; rfl).trans ez35.symm)]; exact hzz35), h3k31.2⟩ ⟨(by show (f_119 1637).toInt = ((sk31 : Nat) : Int); rw [((show f_119 1637 = f27 1637 from by rw [← ef_119]; rfl).trans ezs37.symm)]; exact hzzs37), (by omega)⟩ hp5) (cwV 1 hg (kgV wt4_6 wt4_8 wp1_13 wt1_7 wt4_9) rfl rfl rfl (by decide +kernel) ⟨by dsimp only [rmD]; omega, by dsimp only [rmD]; omega⟩) hV hK hP hD hS hA (50) 4 rfl rfl rfl hl.1 rfl (Nat.le_of_ble_eq_true rfl) dX4_readPlain_186 ⟨Nat.le_refl _, Nat.le_refl _⟩ (fun v121 u122 H locs hw120 hP hD hS => ?_)
                    obtain ⟨f123, a124, g125⟩ := u122
                    have hP : va_P D vwCl (xX K r f123 a124 g125 tx) H := hP
                    have hD : va_D A (xX K r f123 a124 g125 tx) := hD
                    have hI : xI f123 a124 := hw120.2.1
                    have hG : gOK K g125.2 tt := hw120.2.2.1
                    have eE126 : xEk ([1604, 1605, 1637], [55], []) f_119 a28 g29 f123 a124 g125 := hw120.2.2.2.1
                    have hE : xEk ([1604, 1605, 1637], [55], []) f a g f123 a124 g125 := xEk_tr hE eE126
                    have hk0 : xQ f123 a124 N ob T pl := xQ_c hk0 (eE126.1 1603 rfl) (eE126.1 1606 rfl) ⟨eE126.2.1 56 rfl, eE126.2.1 57 rfl⟩
                    obtain ⟨ik127, nk127, hgk127, hlek127, hNk127, hck127⟩ := hw120.2.2.2.2
                    rcases hck127 with ⟨hvk127, h3k127, hltk127, hGk127, hcdk127⟩ | ⟨hvk127, hGk127⟩
                    · refine k_top (z := 1) hvk127 ?_
                      obtain ⟨gv128, egv128⟩ : ∃ z : Int32, z = f123 1604 := ⟨_, rfl⟩
                      have hg129 : gv128.toInt = ((ik127 : Nat) : Int) := by rw [egv128]; exact hgk127
                      have b130 : kb 0 gv128 400 := kb_pos hNk127 hN4 hg129
                      obtain ⟨z131, ez131⟩ : ∃ z : Int32, z = f123 1605 := ⟨_, rfl⟩
                      have hzz131 : z131.toInt = ((nk127 : Nat) : Int) := by rw [ez131]; exact h3k127.1
                      have b132 : kb 0 z131 50 := ⟨by omega, by have w1 := h3k127.2; omega⟩
                      obtain ⟨sk127, wk127, hzk127, hlk127, hqk127, hek127, hrk127⟩ := hcdk127
                      obtain ⟨zs133, ezs133⟩ : ∃ z : Int32, z = f123 1637 := ⟨_, rfl⟩
                      have hzzs133 : zs133.toInt = ((sk127 : Nat) : Int) := by rw [ezs133]; exact hzk127
                      refine lv_if_ne (tgt := 194) hx hb dX4_readPlain_189 (by decide) (fun c134 => ?_) (fun c134 => ?_)
                      · refine lv_aload_n hx hb dX4_readPlain_194 rfl (lv_at hl 2 rfl) ?_
                        refine va_get (D := D) (ci := 4) (v := .ref (r 51)) (C := RX4) (T := TX4) (N := 7) hx hb hg inC4 hown hK hP 50 rfl rfl 0 (by decide) (hg _ wt2_64) (fun _ h9 => h9) rfl dX4_readPlain_195 ?_
                        refine lv_iload_n hx hb dX4_readPlain_198 rfl (lv_at hl 0 rfl) ?_
                        refine lv_iconst (v := 0) hx hb dX4_readPlain_199 (by decide) ?_
                        refine kIG.callW (As := [.int 11, .int 0]) (rest := []) ⟨hx, hb, hml, hown, hg⟩ (y_emit l r f123 a124 g125 tx tt hT hI hG 11 0 (kb_w kc_11 (by decide) (by decide)) (kb_w kc_0 (by decide) (by decide)) (sk127) (by show (f123 1637).toInt = ((sk127 : Nat) : Int); rw [ezs133.symm]; exact hzzs133) (by omega)) (cwV 2 hg (kgV wt4_14 wt4_15 wt4_16 wt1_8 wt4_17) rfl rfl rfl (by decide +kernel) ⟨by dsimp only [rmD]; omega, by dsimp only [rmD]; omega⟩) hV hK hP hD hS hA (51) 10 rfl rfl rfl hl.1 rfl (Nat.le_of_ble_eq_true rfl) dX4_readPlain_200 ⟨Nat.le_refl _, Nat.le_refl _⟩ (fun v136 u137 H locs hw135 hP hD hS => ?_)
                        obtain ⟨f138, a139, g140⟩ := u137
                        have hP : va_P D vwCl (xX K r f138 a139 g140 tx) H := hP
                        have hD : va_D A (xX K r f138 a139 g140 tx) := hD
                        have hI : xI f138 a139 := hw135.2.1
                        have hG : gOK K g140.2 tt := hw135.2.2.1
                        have eE141 : xEk ([1637], [55], []) f123 a124 g125 f138 a139 g140 := hw135.2.2.2.1
                        have hE : xEk ([1604, 1605, 1637], [55], []) f a g f138 a139 g140 := xEk_tr hE (xEk_w (by decide +kernel) eE141)
                        have hk0 : xQ f138 a139 N ob T pl := xQ_c hk0 (eE141.1 1603 rfl) (eE141.1 1606 rfl) ⟨eE141.2.1 56 rfl, eE141.2.1 57 rfl⟩
                        obtain ⟨zs142, ezs142⟩ : ∃ z : Int32, z = f138 1637 := ⟨_, rfl⟩
                        have hzzs142 : zs142.toInt = ((sk127 + 1 : Nat) : Int) := by rw [ezs142]; exact hw135.2.2.2.2.2.1
                        have hj143 := rn_jn (rn_cg hrk31 (fun p h5 h6 => (hw135.2.2.2.2.2.2.2 p (by have w1 := hrk127.1; omega)).trans (hqk127 p h6))) (rn_cg hrk127 (fun p h5 h6 => hw135.2.2.2.2.2.2.2 p (by omega))) (n := opC (T (ik31))) (by rw [hw135.2.2.2.2.2.2.1, (hw44.2.symm.trans c48)]; decide +kernel) (opC_b _).1 (opC_b _).2 (by omega)
                        refine lv_pop hx hb dX4_readPlain_203 rfl ?_
                        refine lv_aload_n hx hb dX4_readPlain_204 rfl (lv_at hl 2 rfl) ?_
                        refine lv_iload_n hx hb dX4_readPlain_205 rfl (lv_at hl 1 rfl) ?_
                        refine lv_if_eq (tgt := 213) hx hb dX4_readPlain_206 (by decide) (fun c144 => ?_) (fun c144 => ?_)
                        · have b145 : kb 0 y4 0 := kb_eq c144 kc_0
                          refine lv_iconst (v := (-1)) hx hb dX4_readPlain_213 (by decide) ?_
                          refine kVG.callW (As := [.int (-1)]) (rest := []) ⟨hx, hb, hml, hown, hg⟩ (y_emitIfAny l r f138 a139 g140 tx tt hT hI hG (-1) (kb_w kc_m1 (by decide) (by decide)) (sk127 + 1) (by show (f138 1637).toInt = ((sk127 + 1 : Nat) : Int); rw [ezs142.symm]; exact hzzs142) (Or.inl rfl)) (cwV 1 hg (kgV wt4_26 wt4_28 wp2_1 wt1_7 wt4_29) rfl rfl rfl (by decide +kernel) ⟨by dsimp only [rmD]; omega, by dsimp only [rmD]; omega⟩) hV hK hP hD hS hA (50) 4 rfl rfl rfl hl.1 rfl (Nat.le_of_ble_eq_true rfl) dX4_readPlain_214 ⟨Nat.le_refl _, Nat.le_refl _⟩ (fun u148 H locs hw146 hP hD hS => ?_)
                          obtain ⟨f149, a150, g151⟩ := u148
                          have hP : va_P D vwCl (xX K r f149 a150 g151 tx) H := hP
                          have hD : va_D A (xX K r f149 a150 g151 tx) := hD
                          have hI : xI f149 a150 := hw146.1
                          have hG : gOK K g151.2 tt := hw146.2.1
                          have eE152 : xEk ([1637], [55], []) f138 a139 g140 f149 a150 g151 := hw146.2.2.1
                          have hE : xEk ([1604, 1605, 1637], [55], []) f a g f149 a150 g151 := xEk_tr hE (xEk_w (by decide +kernel) eE152)
                          have hk0 : xQ f149 a150 N ob T pl := xQ_c hk0 (eE152.1 1603 rfl) (eE152.1 1606 rfl) ⟨eE152.2.1 56 rfl, eE152.2.1 57 rfl⟩
                          obtain ⟨sk153, hzk153, hemk153⟩ := hw146.2.2.2
                          obtain ⟨zs154, ezs154⟩ : ∃ z : Int32, z = f149 1637 := ⟨_, rfl⟩
                          have hzzs154 : zs154.toInt = ((sk153 : Nat) : Int) := by rw [ezs154]; exact hzk153
                          refine lv_iconst (v := 1) hx hb dX4_readPlain_217 (by decide) ?_
                          exact kI_ret (v := 1) hx hb hr hlocks (by decide +kernel) hK hS dX4_readPlain_218 (f149, a150, g151) hP hD ⟨(kb_w kc_1 (by decide) (by decide)), hI, hG, hE, ⟨ik127, nk127, (by show (f149 1604).toInt = ((ik127 : Nat) : Int); rw [((eE152.1 1604 rfl).trans ((eE141.1 1604 rfl).trans egv128.symm))]; exact hg129), (Nat.le_trans (Nat.le_succ_of_le (Nat.le_trans (Nat.le_trans (Nat.le_add_right _ _) hvlp6_1.1) hlek31)) hlek127), hNk127, Or.inl ⟨rfl, ⟨(by show (f149 1605).toInt = ((nk127 : Nat) : Int); rw [((eE152.1 1605 rfl).trans ((eE141.1 1605 rfl).trans ez131.symm))]; exact hzz131), h3k127.2⟩, (by omega), xc _ (pi_5n hn8 (pi_10c (fun q => c23 (hw19.2.trans q)) hGk31 (Or.inr (Or.inl (hw44.2.symm.trans c48))) hGk127)), (pl_n hemk153 (by show (f149 1637).toInt = ((sk153 : Nat) : Int); rw [ezs154.symm]; exact hzzs154) hj143 (by have w1 := hlk31; have w2 := hlk127; omega) (fun p hp => (hw135.2.2.2.2.2.2.2 p (by have w1 := hrk31.1; have w2 := hrk127.1; omega)).trans ((hqk127 p (by have w1 := hrk31.1; omega)).trans (hqk31 p hp))) (by have w1 := xv _ _ (ei_5n hn8 (ei_10c (fun q => c23 (hw19.2.trans q)) hek31 (Or.inr (Or.inl (hw44.2.symm.trans c48))) hek127)); rw [if_neg (by rw [c144]; decide)] at w1; exact w1) (Nat.le_trans (Nat.le_add_right _ _) hvlp6_1.1))⟩⟩⟩
                        · have b155 : kb 1 y4 1 := kr_nel c144 b9 kc_0 (by decide)
                          refine lv_iconst (v := 2) hx hb dX4_readPlain_209 (by decide) ?_
                          refine lv_goto (tgt := 214) hx hb dX4_readPlain_210 (by decide) ?_
                          refine kVG.callW (As := [.int 2]) (rest := []) ⟨hx, hb, hml, hown, hg⟩ (y_emitIfAny l r f138 a139 g140 tx tt hT hI hG 2 (kb_w kc_2 (by decide) (by decide)) (sk127 + 1) (by show (f138 1637).toInt = ((sk127 + 1 : Nat) : Int); rw [ezs142.symm]; exact hzzs142) (Or.inr (by have w1 := htl.resolve_left (fun q => by have w2 := (b155).1; rw [q] at w2; exact absurd w2 (by decide +kernel)); omega))) (cwV 1 hg (kgV wt4_26 wt4_28 wp2_1 wt1_7 wt4_29) rfl rfl rfl (by decide +kernel) ⟨by dsimp only [rmD]; omega, by dsimp only [rmD]; omega⟩) hV hK hP hD hS hA (50) 4 rfl rfl rfl hl.1 rfl (Nat.le_of_ble_eq_true rfl) dX4_readPlain_214 ⟨Nat.le_refl _, Nat.le_refl _⟩ (fun u158 H locs hw156 hP hD hS => ?_)
                          obtain ⟨f159, a160, g161⟩ := u158
                          have hP : va_P D vwCl (xX K r f159 a160 g161 tx) H := hP
                          have hD : va_D A (xX K r f159 a160 g161 tx) := hD
                          have hI : xI f159 a160 := hw156.1
                          have hG : gOK K g161.2 tt := hw156.2.1
                          have eE162 : xEk ([1637], [55], []) f138 a139 g140 f159 a160 g161 := hw156.2.2.1
                          have hE : xEk ([1604, 1605, 1637], [55], []) f a g f159 a160 g161 := xEk_tr hE (xEk_w (by decide +kernel) eE162)
                          have hk0 : xQ f159 a160 N ob T pl := xQ_c hk0 (eE162.1 1603 rfl) (eE162.1 1606 rfl) ⟨eE162.2.1 56 rfl, eE162.2.1 57 rfl⟩
                          obtain ⟨sk163, hzk163, hemk163⟩ := hw156.2.2.2
                          obtain ⟨zs164, ezs164⟩ : ∃ z : Int32, z = f159 1637 := ⟨_, rfl⟩
                          have hzzs164 : zs164.toInt = ((sk163 : Nat) : Int) := by rw [ezs164]; exact hzk163
                          refine lv_iconst (v := 1) hx hb dX4_readPlain_217 (by decide) ?_
                          exact kI_ret (v := 1) hx hb hr hlocks (by decide +kernel) hK hS dX4_readPlain_218 (f159, a160, g161) hP hD ⟨(kb_w kc_1 (by decide) (by decide)), hI, hG, hE, ⟨ik127, nk127, (by show (f159 1604).toInt = ((ik127 : Nat) : Int); rw [((eE162.1 1604 rfl).trans ((eE141.1 1604 rfl).trans egv128.symm))]; exact hg129), (Nat.le_trans (Nat.le_succ_of_le (Nat.le_trans (Nat.le_trans (Nat.le_add_right _ _) hvlp6_1.1) hlek31)) hlek127), hNk127, Or.inl ⟨rfl, ⟨(by show (f159 1605).toInt = ((nk127 : Nat) : Int); rw [((eE162.1 1605 rfl).trans ((eE141.1 1605 rfl).trans ez131.symm))]; exact hzz131), h3k127.2⟩, (by omega), xc _ (pi_5n hn8 (pi_10c (fun q => c23 (hw19.2.trans q)) hGk31 (Or.inr (Or.inl (hw44.2.symm.trans c48))) hGk127)), (pl_y hemk163 (by show (f159 1637).toInt = ((sk163 : Nat) : Int); rw [ezs164.symm]; exact hzzs164) hj143 (pl_l (by have w1 := hlk31; have w2 := hlk127; omega) (htl.resolve_left (fun q => by have w2 := (b155).1; rw [q] at w2; exact absurd w2 (by decide +kernel)))) (fun p hp => (hw135.2.2.2.2.2.2.2 p (by have w1 := hrk31.1; have w2 := hrk127.1; omega)).trans ((hqk127 p (by have w1 := hrk31.1; omega)).trans (hqk31 p hp))) (by have w1 := xv _ _ (ei_5n hn8 (ei_10c (fun q => c23 (hw19.2.trans q)) hek31 (Or.inr (Or.inl (hw44.2.symm.trans c48))) hek127)); rw [if_pos (kb_11 b155)] at w1; exact w1))⟩⟩⟩
                      · exact kb_dj c134 kc_1 kc_0 (by decide)
                    · refine k_top (z := 0) hvk127 ?_
                      obtain ⟨gv165, egv165⟩ : ∃ z : Int32, z = f123 1604 := ⟨_, rfl⟩
                      have hg166 : gv165.toInt = ((ik127 : Nat) : Int) := by rw [egv165]; exact hgk127
                      have b167 : kb 0 gv165 400 := kb_pos hNk127 hN4 hg166
                      refine lv_if_ne (tgt := 194) hx hb dX4_readPlain_189 (by decide) (fun c168 => ?_) (fun c168 => ?_)
                      · exact kb_nsame c168 kc_0 kc_0
                      · refine lv_iconst (v := 0) hx hb dX4_readPlain_192 (by decide) ?_
                        exact kI_ret (v := 0) hx hb hr hlocks (by decide +kernel) hK hS dX4_readPlain_193 (f123, a124, g125) hP hD ⟨(kb_w kc_0 (by decide) (by decide)), hI, hG, hE, ⟨ik127, 0, (by show (f123 1604).toInt = ((ik127 : Nat) : Int); rw [egv165.symm]; exact hg166), (Nat.le_trans (Nat.le_succ_of_le (Nat.le_trans (Nat.le_trans (Nat.le_add_right _ _) hvlp6_1.1) hlek31)) hlek127), hNk127, Or.inr ⟨rfl, xc _ (pi_5n hn8 (pi_10c (fun q => c23 (hw19.2.trans q)) hGk31 (Or.inr (Or.inl (hw44.2.symm.trans c48))) hGk127))⟩⟩⟩
                  · exact kb_dj c113 kc_11 kc_m1 (by decide)
              · have b169 : kb 3060 v40 3060 := kb_eq c43 kc_3060
                refine lv_bipush (v := 10) hx hb dX4_readPlain_130 (by decide) ?_
                refine lv_goto (tgt := 166) hx hb dX4_readPlain_132 (by decide) ?_
                refine lv_istore_n (lv' := [(3, .int 10), (2, .int y4), (0, .ref (r 50)), (1, .int dp)]) hx hb dX4_readPlain_166 rfl hl (by decide) rfl (fun ls hl => ?_)
                refine lv_iload_n hx hb dX4_readPlain_167 rfl (lv_at hl 0 rfl) ?_
                refine lv_iconst (v := (-1)) hx hb dX4_readPlain_168 (by decide) ?_
                refine lv_icmp_ne (tgt := 174) hx hb dX4_readPlain_169 (by decide) (fun c170 => ?_) (fun c170 => ?_)
                · refine lv_aload_n hx hb dX4_readPlain_174 rfl (lv_at hl 2 rfl) ?_
                  refine lv_dup hx hb dX4_readPlain_175 rfl ?_
                  have hlt171 : ik31 < N := xQ_lt hk0 (ne_4000 (hw39.2.symm.trans c43) (by decide +kernel))
                  have b172 : kb 0 gv32 399 := kb_pos1 hlt171 hN4 hg33
                  refine va_get (D := D) (ci := 4) (v := .int (f27 1604)) (C := RX4) (T := TX4) (N := 7) hx hb hg inC4 hown hK hP 50 rfl rfl 4 (by decide) (hg _ wt2_69) (fun _ h9 => h9) rfl dX4_readPlain_176 ?_
                  refine k_top (z := gv32) egv32.symm ?_
                  refine lv_iconst (v := 1) hx hb dX4_readPlain_179 (by decide) ?_
                  refine lv_iadd hx hb dX4_readPlain_180 ?_
                  refine lv_topi (fun t173 et173 => ?_)
                  have b174 : kb 1 t173 400 := kb_eq et173 (kb_add b172 kc_1 (by decide) (by decide))
                  have qt173 : t173.toInt = gv32.toInt + 1 := by rw [et173]; exact kt_addc b172 kc_1 (by decide) (by decide)
                  have hg175 : t173.toInt = ((ik31 + 1 : Nat) : Int) := by rw [qt173, hg33]; omega
                  refine va_put (D := D) (ci := 4) (v := .int t173) (ty := .int) (C := RX4) (T := TX4) (N := 7) hx hb hg inC4 tyX4 tyX4_ok nmX4 hown hK hP hD hS 50 rfl rfl 4 (by decide) (hg _ wt2_69) (fun _ h9 => h9) rfl (by decide +kernel) rfl rfl (Nat.le_of_ble_eq_true rfl) dX4_readPlain_181 (fun H locs hP hD hS => ?_)
                  have hP : va_P D vwCl (xX K r (upd f27 1604 t173) a28 g29 tx) H := hP
                  have hD : va_D A (xX K r (upd f27 1604 t173) a28 g29 tx) := hD
                  refine k_gen (P := fun z => va_P D vwCl (xX K r z a28 g29 tx) H ∧ va_D A (xX K r z a28 g29 tx) ∧ (xI z a28) ∧ (gOK K g29.2 tt) ∧ (xEk ([1604, 1605, 1637], [55], []) f a g z a28 g29) ∧ (xQ z a28 N ob T pl)) (upd f27 1604 t173) ⟨hP, hD, (xI_f hI (fI_st hI.1 1604 (kb_any _) (by decide) (by decide))), hG, (xEk_f hE rfl), (xQ_f hk0 (by decide) (by decide))⟩ (fun f_176 ef_176 hq => ?_)
                  obtain ⟨hP, hD, hI, hG, hE, hk0⟩ := hq
                  refine lv_aload_n hx hb dX4_readPlain_184 rfl (lv_at hl 2 rfl) ?_
                  refine lv_iload_n hx hb dX4_readPlain_185 rfl (lv_at hl 3 rfl) ?_
                  refine kIG.callW (As := [.int dp]) (rest := []) ⟨hx, hb, hml, hown, hg⟩ (hsum l r f_176 a28 g29 tx tt hT hI hG dp bdp N (ik31 + 1) (nk31) (sk31) ob T pl hk0 (by rw [(show f_176 1604 = t173 from by rw [← ef_176]; rfl)]; exact hg175) hlt171 ⟨(by rw [((show f_176 1605 = f27 1605 from by rw [← ef_176]; rfl).trans ez35.symm)]; exact hzz35), h3k31.2⟩ ⟨(by show (f_176 1637).toInt = ((sk31 : Nat) : Int); rw [((show f_176 1637 = f27 1637 from by rw [← ef_176]; rfl).trans ezs37.symm)]; exact hzzs37), (by omega)⟩ hp5) (cwV 1 hg (kgV wt4_6 wt4_8 wp1_13 wt1_7 wt4_9) rfl rfl rfl (by decide +kernel) ⟨by dsimp only [rmD]; omega, by dsimp only [rmD]; omega⟩) hV hK hP hD hS hA (50) 4 rfl rfl rfl hl.1 rfl (Nat.le_of_ble_eq_true rfl) dX4_readPlain_186 ⟨Nat.le_refl _, Nat.le_refl _⟩ (fun v178 u179 H locs hw177 hP hD hS => ?_)
                  obtain ⟨f180, a181, g182⟩ := u179
                  have hP : va_P D vwCl (xX K r f180 a181 g182 tx) H := hP
                  have hD : va_D A (xX K r f180 a181 g182 tx) := hD
                  have hI : xI f180 a181 := hw177.2.1
                  have hG : gOK K g182.2 tt := hw177.2.2.1
                  have eE183 : xEk ([1604, 1605, 1637], [55], []) f_176 a28 g29 f180 a181 g182 := hw177.2.2.2.1
                  have hE : xEk ([1604, 1605, 1637], [55], []) f a g f180 a181 g182 := xEk_tr hE eE183
                  have hk0 : xQ f180 a181 N ob T pl := xQ_c hk0 (eE183.1 1603 rfl) (eE183.1 1606 rfl) ⟨eE183.2.1 56 rfl, eE183.2.1 57 rfl⟩
                  obtain ⟨ik184, nk184, hgk184, hlek184, hNk184, hck184⟩ := hw177.2.2.2.2
                  rcases hck184 with ⟨hvk184, h3k184, hltk184, hGk184, hcdk184⟩ | ⟨hvk184, hGk184⟩
                  · refine k_top (z := 1) hvk184 ?_
                    obtain ⟨gv185, egv185⟩ : ∃ z : Int32, z = f180 1604 := ⟨_, rfl⟩
                    have hg186 : gv185.toInt = ((ik184 : Nat) : Int) := by rw [egv185]; exact hgk184
                    have b187 : kb 0 gv185 400 := kb_pos hNk184 hN4 hg186
                    obtain ⟨z188, ez188⟩ : ∃ z : Int32, z = f180 1605 := ⟨_, rfl⟩
                    have hzz188 : z188.toInt = ((nk184 : Nat) : Int) := by rw [ez188]; exact h3k184.1
                    have b189 : kb 0 z188 50 := ⟨by omega, by have w1 := h3k184.2; omega⟩
                    obtain ⟨sk184, wk184, hzk184, hlk184, hqk184, hek184, hrk184⟩ := hcdk184
                    obtain ⟨zs190, ezs190⟩ : ∃ z : Int32, z = f180 1637 := ⟨_, rfl⟩
                    have hzzs190 : zs190.toInt = ((sk184 : Nat) : Int) := by rw [ezs190]; exact hzk184
                    refine lv_if_ne (tgt := 194) hx hb dX4_readPlain_189 (by decide) (fun c191 => ?_) (fun c191 => ?_)
                    · refine lv_aload_n hx hb dX4_readPlain_194 rfl (lv_at hl 2 rfl) ?_
                      refine va_get (D := D) (ci := 4) (v := .ref (r 51)) (C := RX4) (T := TX4) (N := 7) hx hb hg inC4 hown hK hP 50 rfl rfl 0 (by decide) (hg _ wt2_64) (fun _ h9 => h9) rfl dX4_readPlain_195 ?_
                      refine lv_iload_n hx hb dX4_readPlain_198 rfl (lv_at hl 0 rfl) ?_
                      refine lv_iconst (v := 0) hx hb dX4_readPlain_199 (by decide) ?_
                      refine kIG.callW (As := [.int 10, .int 0]) (rest := []) ⟨hx, hb, hml, hown, hg⟩ (y_emit l r f180 a181 g182 tx tt hT hI hG 10 0 (kb_w kc_10 (by decide) (by decide)) (kb_w kc_0 (by decide) (by decide)) (sk184) (by show (f180 1637).toInt = ((sk184 : Nat) : Int); rw [ezs190.symm]; exact hzzs190) (by omega)) (cwV 2 hg (kgV wt4_14 wt4_15 wt4_16 wt1_8 wt4_17) rfl rfl rfl (by decide +kernel) ⟨by dsimp only [rmD]; omega, by dsimp only [rmD]; omega⟩) hV hK hP hD hS hA (51) 10 rfl rfl rfl hl.1 rfl (Nat.le_of_ble_eq_true rfl) dX4_readPlain_200 ⟨Nat.le_refl _, Nat.le_refl _⟩ (fun v193 u194 H locs hw192 hP hD hS => ?_)
                      obtain ⟨f195, a196, g197⟩ := u194
                      have hP : va_P D vwCl (xX K r f195 a196 g197 tx) H := hP
                      have hD : va_D A (xX K r f195 a196 g197 tx) := hD
                      have hI : xI f195 a196 := hw192.2.1
                      have hG : gOK K g197.2 tt := hw192.2.2.1
                      have eE198 : xEk ([1637], [55], []) f180 a181 g182 f195 a196 g197 := hw192.2.2.2.1
                      have hE : xEk ([1604, 1605, 1637], [55], []) f a g f195 a196 g197 := xEk_tr hE (xEk_w (by decide +kernel) eE198)
                      have hk0 : xQ f195 a196 N ob T pl := xQ_c hk0 (eE198.1 1603 rfl) (eE198.1 1606 rfl) ⟨eE198.2.1 56 rfl, eE198.2.1 57 rfl⟩
                      obtain ⟨zs199, ezs199⟩ : ∃ z : Int32, z = f195 1637 := ⟨_, rfl⟩
                      have hzzs199 : zs199.toInt = ((sk184 + 1 : Nat) : Int) := by rw [ezs199]; exact hw192.2.2.2.2.2.1
                      have hj200 := rn_jn (rn_cg hrk31 (fun p h5 h6 => (hw192.2.2.2.2.2.2.2 p (by have w1 := hrk184.1; omega)).trans (hqk184 p h6))) (rn_cg hrk184 (fun p h5 h6 => hw192.2.2.2.2.2.2.2 p (by omega))) (n := opC (T (ik31))) (by rw [hw192.2.2.2.2.2.2.1, (hw39.2.symm.trans c43)]; decide +kernel) (opC_b _).1 (opC_b _).2 (by omega)
                      refine lv_pop hx hb dX4_readPlain_203 rfl ?_
                      refine lv_aload_n hx hb dX4_readPlain_204 rfl (lv_at hl 2 rfl) ?_
                      refine lv_iload_n hx hb dX4_readPlain_205 rfl (lv_at hl 1 rfl) ?_
                      refine lv_if_eq (tgt := 213) hx hb dX4_readPlain_206 (by decide) (fun c201 => ?_) (fun c201 => ?_)
                      · have b202 : kb 0 y4 0 := kb_eq c201 kc_0
                        refine lv_iconst (v := (-1)) hx hb dX4_readPlain_213 (by decide) ?_
                        refine kVG.callW (As := [.int (-1)]) (rest := []) ⟨hx, hb, hml, hown, hg⟩ (y_emitIfAny l r f195 a196 g197 tx tt hT hI hG (-1) (kb_w kc_m1 (by decide) (by decide)) (sk184 + 1) (by show (f195 1637).toInt = ((sk184 + 1 : Nat) : Int); rw [ezs199.symm]; exact hzzs199) (Or.inl rfl)) (cwV 1 hg (kgV wt4_26 wt4_28 wp2_1 wt1_7 wt4_29) rfl rfl rfl (by decide +kernel) ⟨by dsimp only [rmD]; omega, by dsimp only [rmD]; omega⟩) hV hK hP hD hS hA (50) 4 rfl rfl rfl hl.1 rfl (Nat.le_of_ble_eq_true rfl) dX4_readPlain_214 ⟨Nat.le_refl _, Nat.le_refl _⟩ (fun u205 H locs hw203 hP hD hS => ?_)
                        obtain ⟨f206, a207, g208⟩ := u205
                        have hP : va_P D vwCl (xX K r f206 a207 g208 tx) H := hP
                        have hD : va_D A (xX K r f206 a207 g208 tx) := hD
                        have hI : xI f206 a207 := hw203.1
                        have hG : gOK K g208.2 tt := hw203.2.1
                        have eE209 : xEk ([1637], [55], []) f195 a196 g197 f206 a207 g208 := hw203.2.2.1
                        have hE : xEk ([1604, 1605, 1637], [55], []) f a g f206 a207 g208 := xEk_tr hE (xEk_w (by decide +kernel) eE209)
                        have hk0 : xQ f206 a207 N ob T pl := xQ_c hk0 (eE209.1 1603 rfl) (eE209.1 1606 rfl) ⟨eE209.2.1 56 rfl, eE209.2.1 57 rfl⟩
                        obtain ⟨sk210, hzk210, hemk210⟩ := hw203.2.2.2
                        obtain ⟨zs211, ezs211⟩ : ∃ z : Int32, z = f206 1637 := ⟨_, rfl⟩
                        have hzzs211 : zs211.toInt = ((sk210 : Nat) : Int) := by rw [ezs211]; exact hzk210
                        refine lv_iconst (v := 1) hx hb dX4_readPlain_217 (by decide) ?_
                        exact kI_ret (v := 1) hx hb hr hlocks (by decide +kernel) hK hS dX4_readPlain_218 (f206, a207, g208) hP hD ⟨(kb_w kc_1 (by decide) (by decide)), hI, hG, hE, ⟨ik184, nk184, (by show (f206 1604).toInt = ((ik184 : Nat) : Int); rw [((eE209.1 1604 rfl).trans ((eE198.1 1604 rfl).trans egv185.symm))]; exact hg186), (Nat.le_trans (Nat.le_succ_of_le (Nat.le_trans (Nat.le_trans (Nat.le_add_right _ _) hvlp6_1.1) hlek31)) hlek184), hNk184, Or.inl ⟨rfl, ⟨(by show (f206 1605).toInt = ((nk184 : Nat) : Int); rw [((eE209.1 1605 rfl).trans ((eE198.1 1605 rfl).trans ez188.symm))]; exact hzz188), h3k184.2⟩, (by omega), xc _ (pi_5n hn8 (pi_10c (fun q => c23 (hw19.2.trans q)) hGk31 (Or.inl (hw39.2.symm.trans c43)) hGk184)), (pl_n hemk210 (by show (f206 1637).toInt = ((sk210 : Nat) : Int); rw [ezs211.symm]; exact hzzs211) hj200 (by have w1 := hlk31; have w2 := hlk184; omega) (fun p hp => (hw192.2.2.2.2.2.2.2 p (by have w1 := hrk31.1; have w2 := hrk184.1; omega)).trans ((hqk184 p (by have w1 := hrk31.1; omega)).trans (hqk31 p hp))) (by have w1 := xv _ _ (ei_5n hn8 (ei_10c (fun q => c23 (hw19.2.trans q)) hek31 (Or.inl (hw39.2.symm.trans c43)) hek184)); rw [if_neg (by rw [c201]; decide)] at w1; exact w1) (Nat.le_trans (Nat.le_add_right _ _) hvlp6_1.1))⟩⟩⟩
                      · have b212 : kb 1 y4 1 := kr_nel c201 b9 kc_0 (by decide)
                        refine lv_iconst (v := 2) hx hb dX4_readPlain_209 (by decide) ?_
                        refine lv_goto (tgt := 214) hx hb dX4_readPlain_210 (by decide) ?_
                        refine kVG.callW (As := [.int 2]) (rest := []) ⟨hx, hb, hml, hown, hg⟩ (y_emitIfAny l r f195 a196 g197 tx tt hT hI hG 2 (kb_w kc_2 (by decide) (by decide)) (sk184 + 1) (by show (f195 1637).toInt = ((sk184 + 1 : Nat) : Int); rw [ezs199.symm]; exact hzzs199) (Or.inr (by have w1 := htl.resolve_left (fun q => by have w2 := (b212).1; rw [q] at w2; exact absurd w2 (by decide +kernel)); omega))) (cwV 1 hg (kgV wt4_26 wt4_28 wp2_1 wt1_7 wt4_29) rfl rfl rfl (by decide +kernel) ⟨by dsimp only [rmD]; omega, by dsimp only [rmD]; omega⟩) hV hK hP hD hS hA (50) 4 rfl rfl rfl hl.1 rfl (Nat.le_of_ble_eq_true rfl) dX4_readPlain_214 ⟨Nat.le_refl _, Nat.le_refl _⟩ (fun u215 H locs hw213 hP hD hS => ?_)
                        obtain ⟨f216, a217, g218⟩ := u215
                        have hP : va_P D vwCl (xX K r f216 a217 g218 tx) H := hP
                        have hD : va_D A (xX K r f216 a217 g218 tx) := hD
                        have hI : xI f216 a217 := hw213.1
                        have hG : gOK K g218.2 tt := hw213.2.1
                        have eE219 : xEk ([1637], [55], []) f195 a196 g197 f216 a217 g218 := hw213.2.2.1
                        have hE : xEk ([1604, 1605, 1637], [55], []) f a g f216 a217 g218 := xEk_tr hE (xEk_w (by decide +kernel) eE219)
                        have hk0 : xQ f216 a217 N ob T pl := xQ_c hk0 (eE219.1 1603 rfl) (eE219.1 1606 rfl) ⟨eE219.2.1 56 rfl, eE219.2.1 57 rfl⟩
                        obtain ⟨sk220, hzk220, hemk220⟩ := hw213.2.2.2
                        obtain ⟨zs221, ezs221⟩ : ∃ z : Int32, z = f216 1637 := ⟨_, rfl⟩
                        have hzzs221 : zs221.toInt = ((sk220 : Nat) : Int) := by rw [ezs221]; exact hzk220
                        refine lv_iconst (v := 1) hx hb dX4_readPlain_217 (by decide) ?_
                        exact kI_ret (v := 1) hx hb hr hlocks (by decide +kernel) hK hS dX4_readPlain_218 (f216, a217, g218) hP hD ⟨(kb_w kc_1 (by decide) (by decide)), hI, hG, hE, ⟨ik184, nk184, (by show (f216 1604).toInt = ((ik184 : Nat) : Int); rw [((eE219.1 1604 rfl).trans ((eE198.1 1604 rfl).trans egv185.symm))]; exact hg186), (Nat.le_trans (Nat.le_succ_of_le (Nat.le_trans (Nat.le_trans (Nat.le_add_right _ _) hvlp6_1.1) hlek31)) hlek184), hNk184, Or.inl ⟨rfl, ⟨(by show (f216 1605).toInt = ((nk184 : Nat) : Int); rw [((eE219.1 1605 rfl).trans ((eE198.1 1605 rfl).trans ez188.symm))]; exact hzz188), h3k184.2⟩, (by omega), xc _ (pi_5n hn8 (pi_10c (fun q => c23 (hw19.2.trans q)) hGk31 (Or.inl (hw39.2.symm.trans c43)) hGk184)), (pl_y hemk220 (by show (f216 1637).toInt = ((sk220 : Nat) : Int); rw [ezs221.symm]; exact hzzs221) hj200 (pl_l (by have w1 := hlk31; have w2 := hlk184; omega) (htl.resolve_left (fun q => by have w2 := (b212).1; rw [q] at w2; exact absurd w2 (by decide +kernel)))) (fun p hp => (hw192.2.2.2.2.2.2.2 p (by have w1 := hrk31.1; have w2 := hrk184.1; omega)).trans ((hqk184 p (by have w1 := hrk31.1; omega)).trans (hqk31 p hp))) (by have w1 := xv _ _ (ei_5n hn8 (ei_10c (fun q => c23 (hw19.2.trans q)) hek31 (Or.inl (hw39.2.symm.trans c43)) hek184)); rw [if_pos (kb_11 b212)] at w1; exact w1))⟩⟩⟩
                    · exact kb_dj c191 kc_1 kc_0 (by decide)
                  · refine k_top (z := 0) hvk184 ?_
                    obtain ⟨gv222, egv222⟩ : ∃ z : Int32, z = f180 1604 := ⟨_, rfl⟩
                    have hg223 : gv222.toInt = ((ik184 : Nat) : Int) := by rw [egv222]; exact hgk184
                    have b224 : kb 0 gv222 400 := kb_pos hNk184 hN4 hg223
                    refine lv_if_ne (tgt := 194) hx hb dX4_readPlain_189 (by decide) (fun c225 => ?_) (fun c225 => ?_)
                    · exact kb_nsame c225 kc_0 kc_0
                    · refine lv_iconst (v := 0) hx hb dX4_readPlain_192 (by decide) ?_
                      exact kI_ret (v := 0) hx hb hr hlocks (by decide +kernel) hK hS dX4_readPlain_193 (f180, a181, g182) hP hD ⟨(kb_w kc_0 (by decide) (by decide)), hI, hG, hE, ⟨ik184, 0, (by show (f180 1604).toInt = ((ik184 : Nat) : Int); rw [egv222.symm]; exact hg223), (Nat.le_trans (Nat.le_succ_of_le (Nat.le_trans (Nat.le_trans (Nat.le_add_right _ _) hvlp6_1.1) hlek31)) hlek184), hNk184, Or.inr ⟨rfl, xc _ (pi_5n hn8 (pi_10c (fun q => c23 (hw19.2.trans q)) hGk31 (Or.inl (hw39.2.symm.trans c43)) hGk184))⟩⟩⟩
                · exact kb_dj c170 kc_10 kc_m1 (by decide)
            · exact kb_dj c38 kc_1 kc_0 (by decide)
          · refine k_top (z := 0) hvk31 ?_
            obtain ⟨gv226, egv226⟩ : ∃ z : Int32, z = f27 1604 := ⟨_, rfl⟩
            have hg227 : gv226.toInt = ((ik31 : Nat) : Int) := by rw [egv226]; exact hgk31
            have b228 : kb 0 gv226 400 := kb_pos hNk31 hN4 hg227
            refine lv_if_ne (tgt := 120) hx hb dX4_readPlain_115 (by decide) (fun c229 => ?_) (fun c229 => ?_)
            · exact kb_nsame c229 kc_0 kc_0
            · refine lv_iconst (v := 0) hx hb dX4_readPlain_118 (by decide) ?_
              exact kI_ret (v := 0) hx hb hr hlocks (by decide +kernel) hK hS dX4_readPlain_119 (f27, a28, g29) hP hD ⟨(kb_w kc_0 (by decide) (by decide)), hI, hG, hE, ⟨ik31, 0, (by show (f27 1604).toInt = ((ik31 : Nat) : Int); rw [egv226.symm]; exact hg227), (Nat.le_trans (Nat.le_trans (Nat.le_add_right _ _) hvlp6_1.1) hlek31), hNk31, Or.inr ⟨rfl, xc _ (pi_5n hn8 (pi_10g (fun q => c23 (hw19.2.trans q)) hGk31))⟩⟩⟩
        · have b230 : kb 3040 v20 3040 := kb_eq c23 kc_3040
          refine lv_iload_n hx hb dX4_readPlain_57 rfl (lv_at hl 3 rfl) ?_
          refine lv_bipush (v := 8) hx hb dX4_readPlain_58 (by decide) ?_
          refine lv_icmp_lt (tgt := 65) hx hb dX4_readPlain_60 (by decide) (fun c231 => ?_) (fun c231 => ?_)
          · have h232 := (kc_lt c231)
            have b233 : kb 0 dp 7 := kr_lt1 h232 bdp kc_8 (by decide)
            refine lv_aload_n hx hb dX4_readPlain_65 rfl (lv_at hl 2 rfl) ?_
            refine lv_dup hx hb dX4_readPlain_66 rfl ?_
            have hlt234 : i5 < N := xQ_lt hk0 (ne_4000 (hw19.2.symm.trans c23) (by decide +kernel))
            have b235 : kb 0 gv10 399 := kb_pos1 hlt234 hN4 hg11
            refine va_get (D := D) (ci := 4) (v := .int (F5 1604)) (C := RX4) (T := TX4) (N := 7) hx hb hg inC4 hown hK hP 50 rfl rfl 4 (by decide) (hg _ wt2_69) (fun _ h9 => h9) rfl dX4_readPlain_67 ?_
            refine k_top (z := gv10) egv10.symm ?_
            refine lv_iconst (v := 1) hx hb dX4_readPlain_70 (by decide) ?_
            refine lv_iadd hx hb dX4_readPlain_71 ?_
            refine lv_topi (fun t236 et236 => ?_)
            have b237 : kb 1 t236 400 := kb_eq et236 (kb_add b235 kc_1 (by decide) (by decide))
            have qt236 : t236.toInt = gv10.toInt + 1 := by rw [et236]; exact kt_addc b235 kc_1 (by decide) (by decide)
            have hg238 : t236.toInt = ((i5 + 1 : Nat) : Int) := by rw [qt236, hg11]; omega
            refine va_put (D := D) (ci := 4) (v := .int t236) (ty := .int) (C := RX4) (T := TX4) (N := 7) hx hb hg inC4 tyX4 tyX4_ok nmX4 hown hK hP hD hS 50 rfl rfl 4 (by decide) (hg _ wt2_69) (fun _ h9 => h9) rfl (by decide +kernel) rfl rfl (Nat.le_of_ble_eq_true rfl) dX4_readPlain_72 (fun H locs hP hD hS => ?_)
            have hP : va_P D vwCl (xX K r (upd F5 1604 t236) a g tx) H := hP
            have hD : va_D A (xX K r (upd F5 1604 t236) a g tx) := hD
            refine k_gen (P := fun z => va_P D vwCl (xX K r z a g tx) H ∧ va_D A (xX K r z a g tx) ∧ (xI z a) ∧ (gOK K g.2 tt) ∧ (xEk ([1604, 1605, 1637], [55], []) f a g z a g) ∧ (xQ z a N ob T pl)) (upd F5 1604 t236) ⟨hP, hD, (xI_f hI (fI_st hI.1 1604 (kb_any _) (by decide) (by decide))), hG, (xEk_f hE rfl), (xQ_f hk0 (by decide) (by decide))⟩ (fun f_239 ef_239 hq => ?_)
            obtain ⟨hP, hD, hI, hG, hE, hk0⟩ := hq
            obtain ⟨ee, hd⟩ : ∃ ee, d = ee + 1 := ⟨d - 1, by have w1 := hp5; have w2 := (b233).2; omega⟩
            refine lv_aload_n hx hb dX4_readPlain_75 rfl (lv_at hl 2 rfl) ?_
            refine lv_iload_n hx hb dX4_readPlain_76 rfl (lv_at hl 3 rfl) ?_
            refine lv_iconst (v := 1) hx hb dX4_readPlain_77 (by decide) ?_
            refine lv_iadd hx hb dX4_readPlain_78 ?_
            refine lv_topi (fun t240 et240 => ?_)
            have b241 : kb 1 t240 8 := kb_eq et240 (kb_add b233 kc_1 (by decide) (by decide))
            have qt240 : t240.toInt = dp.toInt + 1 := by rw [et240]; exact kt_addc b233 kc_1 (by decide) (by decide)
            refine kIG.callW (As := [.int t240]) (rest := []) ⟨hx, hb, hml, hown, hg⟩ ((ih ee hd) l r f_239 a g tx tt hT hI hG t240 (kb_w b241 (by decide) (by decide)) N (i5 + 1) (n5) (s0) ob T pl hk0 (by rw [(show f_239 1604 = t236 from by rw [← ef_239]; rfl)]; exact hg238) hlt234 ⟨(by rw [((show f_239 1605 = F5 1605 from by rw [← ef_239]; rfl).trans ez13.symm)]; exact hzz13), hvlp6_2.2⟩ ⟨(by show (f_239 1637).toInt = ((s0 : Nat) : Int); rw [((show f_239 1637 = F5 1637 from by rw [← ef_239]; rfl).trans ezs15.symm)]; exact hzzs15), (by omega)⟩ (by have w1 := hp5; have w2 := qt240; omega)) (cwV 1 hg (kgV wt4_50 wt4_52 wp2_5 wt1_7 wt4_53) rfl rfl rfl (by decide +kernel) ⟨by dsimp only [rmD]; omega, by dsimp only [rmD]; omega⟩) hV hK hP hD hS hA (50) 4 rfl rfl rfl hl.1 rfl (Nat.le_of_ble_eq_true rfl) dX4_readPlain_79 ⟨Nat.le_refl _, Nat.le_refl _⟩ (fun v243 u244 H locs hw242 hP hD hS => ?_)
            obtain ⟨f245, a246, g247⟩ := u244
            have hP : va_P D vwCl (xX K r f245 a246 g247 tx) H := hP
            have hD : va_D A (xX K r f245 a246 g247 tx) := hD
            have hI : xI f245 a246 := hw242.2.1
            have hG : gOK K g247.2 tt := hw242.2.2.1
            have eE248 : xEk ([1604, 1605, 1637], [55], []) f_239 a g f245 a246 g247 := hw242.2.2.2.1
            have hE : xEk ([1604, 1605, 1637], [55], []) f a g f245 a246 g247 := xEk_tr hE eE248
            have hk0 : xQ f245 a246 N ob T pl := xQ_c hk0 (eE248.1 1603 rfl) (eE248.1 1606 rfl) ⟨eE248.2.1 56 rfl, eE248.2.1 57 rfl⟩
            obtain ⟨ik249, nk249, hgk249, hlek249, hNk249, hck249⟩ := hw242.2.2.2.2
            rcases hck249 with ⟨hvk249, h3k249, hltk249, hGk249, hcdk249⟩ | ⟨hvk249, hGk249⟩
            · refine k_top (z := 1) hvk249 ?_
              obtain ⟨gv250, egv250⟩ : ∃ z : Int32, z = f245 1604 := ⟨_, rfl⟩
              have hg251 : gv250.toInt = ((ik249 : Nat) : Int) := by rw [egv250]; exact hgk249
              have b252 : kb 0 gv250 400 := kb_pos hNk249 hN4 hg251
              obtain ⟨z253, ez253⟩ : ∃ z : Int32, z = f245 1605 := ⟨_, rfl⟩
              have hzz253 : z253.toInt = ((nk249 : Nat) : Int) := by rw [ez253]; exact h3k249.1
              have b254 : kb 0 z253 50 := ⟨by omega, by have w1 := h3k249.2; omega⟩
              obtain ⟨sk249, wk249, hzk249, hlk249, hqk249, hek249, hrk249⟩ := hcdk249
              obtain ⟨zs255, ezs255⟩ : ∃ z : Int32, z = f245 1637 := ⟨_, rfl⟩
              have hzzs255 : zs255.toInt = ((sk249 : Nat) : Int) := by rw [ezs255]; exact hzk249
              refine lv_if_eq (tgt := 95) hx hb dX4_readPlain_82 (by decide) (fun c256 => ?_) (fun c256 => ?_)
              · exact kb_dj c256 kc_1 kc_0 (by decide)
              · refine lv_aload_n hx hb dX4_readPlain_85 rfl (lv_at hl 2 rfl) ?_
                refine kIG.callW (As := []) (rest := []) ⟨hx, hb, hml, hown, hg⟩ (y_inHand l r f245 a246 g247 tx tt hT hI hG   N (ik249) ob T pl hk0 (by rw [egv250.symm]; exact hg251) hNk249) (cwV 0 hg (kgV wt3_238 wt4_0 wp1_12 wt1_7 wt4_1) rfl rfl rfl (by decide +kernel) ⟨by dsimp only [rmD]; omega, by dsimp only [rmD]; omega⟩) hV hK hP hD hS hA (50) 4 rfl rfl rfl hl.1 rfl (Nat.le_of_ble_eq_true rfl) dX4_readPlain_86 ⟨Nat.le_refl _, Nat.le_refl _⟩ (fun v258 u259 H locs hw257 hP hD hS => ?_)
                have hP : va_P D vwCl (xX K r f245 a246 g247 tx) H := hP
                have hD : va_D A (xX K r f245 a246 g247 tx) := hD
                have b260 : kb 0 v258 4000 := kb_eq hw257.2 (hk0.2.2.2.2.2.2 (ik249))
                refine lv_sipush (v := 3041) hx hb dX4_readPlain_89 (by decide) ?_
                refine lv_icmp_eq (tgt := 97) hx hb dX4_readPlain_92 (by decide) (fun c261 => ?_) (fun c261 => ?_)
                · have b262 : kb 3041 v258 3041 := kb_eq c261 kc_3041
                  refine lv_aload_n hx hb dX4_readPlain_97 rfl (lv_at hl 2 rfl) ?_
                  refine lv_dup hx hb dX4_readPlain_98 rfl ?_
                  have hlt263 : ik249 < N := xQ_lt hk0 (ne_4000 (hw257.2.symm.trans c261) (by decide +kernel))
                  have b264 : kb 0 gv250 399 := kb_pos1 hlt263 hN4 hg251
                  refine va_get (D := D) (ci := 4) (v := .int (f245 1604)) (C := RX4) (T := TX4) (N := 7) hx hb hg inC4 hown hK hP 50 rfl rfl 4 (by decide) (hg _ wt2_69) (fun _ h9 => h9) rfl dX4_readPlain_99 ?_
                  refine k_top (z := gv250) egv250.symm ?_
                  refine lv_iconst (v := 1) hx hb dX4_readPlain_102 (by decide) ?_
                  refine lv_iadd hx hb dX4_readPlain_103 ?_
                  refine lv_topi (fun t265 et265 => ?_)
                  have b266 : kb 1 t265 400 := kb_eq et265 (kb_add b264 kc_1 (by decide) (by decide))
                  have qt265 : t265.toInt = gv250.toInt + 1 := by rw [et265]; exact kt_addc b264 kc_1 (by decide) (by decide)
                  have hg267 : t265.toInt = ((ik249 + 1 : Nat) : Int) := by rw [qt265, hg251]; omega
                  refine va_put (D := D) (ci := 4) (v := .int t265) (ty := .int) (C := RX4) (T := TX4) (N := 7) hx hb hg inC4 tyX4 tyX4_ok nmX4 hown hK hP hD hS 50 rfl rfl 4 (by decide) (hg _ wt2_69) (fun _ h9 => h9) rfl (by decide +kernel) rfl rfl (Nat.le_of_ble_eq_true rfl) dX4_readPlain_104 (fun H locs hP hD hS => ?_)
                  have hP : va_P D vwCl (xX K r (upd f245 1604 t265) a246 g247 tx) H := hP
                  have hD : va_D A (xX K r (upd f245 1604 t265) a246 g247 tx) := hD
                  refine k_gen (P := fun z => va_P D vwCl (xX K r z a246 g247 tx) H ∧ va_D A (xX K r z a246 g247 tx) ∧ (xI z a246) ∧ (gOK K g247.2 tt) ∧ (xEk ([1604, 1605, 1637], [55], []) f a g z a246 g247) ∧ (xQ z a246 N ob T pl)) (upd f245 1604 t265) ⟨hP, hD, (xI_f hI (fI_st hI.1 1604 (kb_any _) (by decide) (by decide))), hG, (xEk_f hE rfl), (xQ_f hk0 (by decide) (by decide))⟩ (fun f_268 ef_268 hq => ?_)
                  obtain ⟨hP, hD, hI, hG, hE, hk0⟩ := hq
                  refine lv_goto (tgt := 204) hx hb dX4_readPlain_107 (by decide) ?_
                  refine lv_aload_n hx hb dX4_readPlain_204 rfl (lv_at hl 2 rfl) ?_
                  refine lv_iload_n hx hb dX4_readPlain_205 rfl (lv_at hl 1 rfl) ?_
                  refine lv_if_eq (tgt := 213) hx hb dX4_readPlain_206 (by decide) (fun c269 => ?_) (fun c269 => ?_)
                  · have b270 : kb 0 y4 0 := kb_eq c269 kc_0
                    refine lv_iconst (v := (-1)) hx hb dX4_readPlain_213 (by decide) ?_
                    refine kVG.callW (As := [.int (-1)]) (rest := []) ⟨hx, hb, hml, hown, hg⟩ (y_emitIfAny l r f_268 a246 g247 tx tt hT hI hG (-1) (kb_w kc_m1 (by decide) (by decide)) (sk249) (by show (f_268 1637).toInt = ((sk249 : Nat) : Int); rw [((show f_268 1637 = f245 1637 from by rw [← ef_268]; rfl).trans ezs255.symm)]; exact hzzs255) (Or.inl rfl)) (cwV 1 hg (kgV wt4_26 wt4_28 wp2_1 wt1_7 wt4_29) rfl rfl rfl (by decide +kernel) ⟨by dsimp only [rmD]; omega, by dsimp only [rmD]; omega⟩) hV hK hP hD hS hA (50) 4 rfl rfl rfl hl.1 rfl (Nat.le_of_ble_eq_true rfl) dX4_readPlain_214 ⟨Nat.le_refl _, Nat.le_refl _⟩ (fun u273 H locs hw271 hP hD hS => ?_)
                    obtain ⟨f274, a275, g276⟩ := u273
                    have hP : va_P D vwCl (xX K r f274 a275 g276 tx) H := hP
                    have hD : va_D A (xX K r f274 a275 g276 tx) := hD
                    have hI : xI f274 a275 := hw271.1
                    have hG : gOK K g276.2 tt := hw271.2.1
                    have eE277 : xEk ([1637], [55], []) f_268 a246 g247 f274 a275 g276 := hw271.2.2.1
                    have hE : xEk ([1604, 1605, 1637], [55], []) f a g f274 a275 g276 := xEk_tr hE (xEk_w (by decide +kernel) eE277)
                    have hk0 : xQ f274 a275 N ob T pl := xQ_c hk0 (eE277.1 1603 rfl) (eE277.1 1606 rfl) ⟨eE277.2.1 56 rfl, eE277.2.1 57 rfl⟩
                    obtain ⟨sk278, hzk278, hemk278⟩ := hw271.2.2.2
                    obtain ⟨zs279, ezs279⟩ : ∃ z : Int32, z = f274 1637 := ⟨_, rfl⟩
                    have hzzs279 : zs279.toInt = ((sk278 : Nat) : Int) := by rw [ezs279]; exact hzk278
                    refine lv_iconst (v := 1) hx hb dX4_readPlain_217 (by decide) ?_
                    exact kI_ret (v := 1) hx hb hr hlocks (by decide +kernel) hK hS dX4_readPlain_218 (f274, a275, g276) hP hD ⟨(kb_w kc_1 (by decide) (by decide)), hI, hG, hE, ⟨ik249 + 1, nk249, (by show (f274 1604).toInt = ((ik249 + 1 : Nat) : Int); rw [((eE277.1 1604 rfl).trans (show f_268 1604 = t265 from by rw [← ef_268]; rfl))]; exact hg267), (Nat.le_succ_of_le (Nat.le_trans (Nat.le_succ_of_le (Nat.le_trans (Nat.le_add_right _ _) hvlp6_1.1)) hlek249)), hlt263, Or.inl ⟨rfl, ⟨(by show (f274 1605).toInt = ((nk249 : Nat) : Int); rw [((eE277.1 1605 rfl).trans ((show f_268 1605 = f245 1605 from by rw [← ef_268]; rfl).trans ez253.symm))]; exact hzz253), h3k249.2⟩, (by omega), xc _ (pi_5n hn8 (pi_10a (hw19.2.symm.trans c23) hd hGk249 (hw257.2.symm.trans c261))), (pl_n hemk278 (by show (f274 1637).toInt = ((sk278 : Nat) : Int); rw [ezs279.symm]; exact hzzs279) (rn_w hrk249 (by omega)) (by have w1 := hlk249; omega) hqk249 (by have w1 := xv _ _ (ei_5n hn8 (ei_10b (hw19.2.symm.trans c23) hd hek249 (hw257.2.symm.trans c261))); rw [if_neg (by rw [c269]; decide)] at w1; exact w1) (Nat.le_trans (Nat.le_add_right _ _) hvlp6_1.1))⟩⟩⟩
                  · have b280 : kb 1 y4 1 := kr_nel c269 b9 kc_0 (by decide)
                    refine lv_iconst (v := 2) hx hb dX4_readPlain_209 (by decide) ?_
                    refine lv_goto (tgt := 214) hx hb dX4_readPlain_210 (by decide) ?_
                    refine kVG.callW (As := [.int 2]) (rest := []) ⟨hx, hb, hml, hown, hg⟩ (y_emitIfAny l r f_268 a246 g247 tx tt hT hI hG 2 (kb_w kc_2 (by decide) (by decide)) (sk249) (by show (f_268 1637).toInt = ((sk249 : Nat) : Int); rw [((show f_268 1637 = f245 1637 from by rw [← ef_268]; rfl).trans ezs255.symm)]; exact hzzs255) (Or.inr (by have w1 := htl.resolve_left (fun q => by have w2 := (b280).1; rw [q] at w2; exact absurd w2 (by decide +kernel)); omega))) (cwV 1 hg (kgV wt4_26 wt4_28 wp2_1 wt1_7 wt4_29) rfl rfl rfl (by decide +kernel) ⟨by dsimp only [rmD]; omega, by dsimp only [rmD]; omega⟩) hV hK hP hD hS hA (50) 4 rfl rfl rfl hl.1 rfl (Nat.le_of_ble_eq_true rfl) dX4_readPlain_214 ⟨Nat.le_refl _, Nat.le_refl _⟩ (fun u283 H locs hw281 hP hD hS => ?_)
                    obtain ⟨f284, a285, g286⟩ := u283
                    have hP : va_P D vwCl (xX K r f284 a285 g286 tx) H := hP
                    have hD : va_D A (xX K r f284 a285 g286 tx) := hD
                    have hI : xI f284 a285 := hw281.1
                    have hG : gOK K g286.2 tt := hw281.2.1
                    have eE287 : xEk ([1637], [55], []) f_268 a246 g247 f284 a285 g286 := hw281.2.2.1
                    have hE : xEk ([1604, 1605, 1637], [55], []) f a g f284 a285 g286 := xEk_tr hE (xEk_w (by decide +kernel) eE287)
                    have hk0 : xQ f284 a285 N ob T pl := xQ_c hk0 (eE287.1 1603 rfl) (eE287.1 1606 rfl) ⟨eE287.2.1 56 rfl, eE287.2.1 57 rfl⟩
                    obtain ⟨sk288, hzk288, hemk288⟩ := hw281.2.2.2
                    obtain ⟨zs289, ezs289⟩ : ∃ z : Int32, z = f284 1637 := ⟨_, rfl⟩
                    have hzzs289 : zs289.toInt = ((sk288 : Nat) : Int) := by rw [ezs289]; exact hzk288
                    refine lv_iconst (v := 1) hx hb dX4_readPlain_217 (by decide) ?_
                    exact kI_ret (v := 1) hx hb hr hlocks (by decide +kernel) hK hS dX4_readPlain_218 (f284, a285, g286) hP hD ⟨(kb_w kc_1 (by decide) (by decide)), hI, hG, hE, ⟨ik249 + 1, nk249, (by show (f284 1604).toInt = ((ik249 + 1 : Nat) : Int); rw [((eE287.1 1604 rfl).trans (show f_268 1604 = t265 from by rw [← ef_268]; rfl))]; exact hg267), (Nat.le_succ_of_le (Nat.le_trans (Nat.le_succ_of_le (Nat.le_trans (Nat.le_add_right _ _) hvlp6_1.1)) hlek249)), hlt263, Or.inl ⟨rfl, ⟨(by show (f284 1605).toInt = ((nk249 : Nat) : Int); rw [((eE287.1 1605 rfl).trans ((show f_268 1605 = f245 1605 from by rw [← ef_268]; rfl).trans ez253.symm))]; exact hzz253), h3k249.2⟩, (by omega), xc _ (pi_5n hn8 (pi_10a (hw19.2.symm.trans c23) hd hGk249 (hw257.2.symm.trans c261))), (pl_y hemk288 (by show (f284 1637).toInt = ((sk288 : Nat) : Int); rw [ezs289.symm]; exact hzzs289) (rn_w hrk249 (by omega)) (pl_l (by have w1 := hlk249; omega) (htl.resolve_left (fun q => by have w2 := (b280).1; rw [q] at w2; exact absurd w2 (by decide +kernel)))) hqk249 (by have w1 := xv _ _ (ei_5n hn8 (ei_10b (hw19.2.symm.trans c23) hd hek249 (hw257.2.symm.trans c261))); rw [if_pos (kb_11 b280)] at w1; exact w1))⟩⟩⟩
                · refine lv_iconst (v := 0) hx hb dX4_readPlain_95 (by decide) ?_
                  exact kI_ret (v := 0) hx hb hr hlocks (by decide +kernel) hK hS dX4_readPlain_96 (f245, a246, g247) hP hD ⟨(kb_w kc_0 (by decide) (by decide)), hI, hG, hE, ⟨ik249, 0, (by show (f245 1604).toInt = ((ik249 : Nat) : Int); rw [egv250.symm]; exact hg251), (Nat.le_trans (Nat.le_succ_of_le (Nat.le_trans (Nat.le_add_right _ _) hvlp6_1.1)) hlek249), hNk249, Or.inr ⟨rfl, xc _ (pi_5n hn8 (pi_10b (hw19.2.symm.trans c23) hd hGk249 (fun q => c261 (hw257.2.trans q))))⟩⟩⟩
            · refine k_top (z := 0) hvk249 ?_
              obtain ⟨gv290, egv290⟩ : ∃ z : Int32, z = f245 1604 := ⟨_, rfl⟩
              have hg291 : gv290.toInt = ((ik249 : Nat) : Int) := by rw [egv290]; exact hgk249
              have b292 : kb 0 gv290 400 := kb_pos hNk249 hN4 hg291
              refine lv_if_eq (tgt := 95) hx hb dX4_readPlain_82 (by decide) (fun c293 => ?_) (fun c293 => ?_)
              · refine lv_iconst (v := 0) hx hb dX4_readPlain_95 (by decide) ?_
                exact kI_ret (v := 0) hx hb hr hlocks (by decide +kernel) hK hS dX4_readPlain_96 (f245, a246, g247) hP hD ⟨(kb_w kc_0 (by decide) (by decide)), hI, hG, hE, ⟨ik249, 0, (by show (f245 1604).toInt = ((ik249 : Nat) : Int); rw [egv290.symm]; exact hg291), (Nat.le_trans (Nat.le_succ_of_le (Nat.le_trans (Nat.le_add_right _ _) hvlp6_1.1)) hlek249), hNk249, Or.inr ⟨rfl, xc _ (pi_5n hn8 (pi_10f (hw19.2.symm.trans c23) hd hGk249))⟩⟩⟩
              · exact kb_nsame c293 kc_0 kc_0
          · have h294 := (kc_nlt c231)
            have b295 : kb 8 dp 8 := kr_le2 h294 kc_8 bdp
            refine lv_iconst (v := 0) hx hb dX4_readPlain_63 (by decide) ?_
            exact kI_ret (v := 0) hx hb hr hlocks (by decide +kernel) hK hS dX4_readPlain_64 (F5, a, g) hP hD ⟨(kb_w kc_0 (by decide) (by decide)), hI, hG, hE, ⟨i5, 0, (by show (F5 1604).toInt = ((i5 : Nat) : Int); rw [egv10.symm]; exact hg11), (Nat.le_trans (Nat.le_add_right _ _) hvlp6_1.1), hvlp6_1.2, Or.inr ⟨rfl, xc _ (pi_5n hn8 (pi_10z (hw19.2.symm.trans c23) (by have w1 := hp5; have w2 := (b295).1; omega)))⟩⟩⟩
      · have h296 := (kc_nle c16)
        have b297 : kb 0 y3 399 := kr_lt1 h296 b8 kc_400 (by decide)
        refine lv_aload_n hx hb dX4_readPlain_11 rfl (lv_at hl 2 rfl) ?_
        refine kIG.callW (As := []) (rest := []) ⟨hx, hb, hml, hown, hg⟩ (y_inHand l r F5 a g tx tt hT hI hG   N (i5) ob T pl hk0 (by rw [egv10.symm]; exact hg11) hvlp6_1.2) (cwV 0 hg (kgV wt3_238 wt4_0 wp1_12 wt1_7 wt4_1) rfl rfl rfl (by decide +kernel) ⟨by dsimp only [rmD]; omega, by dsimp only [rmD]; omega⟩) hV hK hP hD hS hA (50) 4 rfl rfl rfl hl.1 rfl (Nat.le_of_ble_eq_true rfl) dX4_readPlain_12 ⟨Nat.le_refl _, Nat.le_refl _⟩ (fun v299 u300 H locs hw298 hP hD hS => ?_)
        have hP : va_P D vwCl (xX K r F5 a g tx) H := hP
        have hD : va_D A (xX K r F5 a g tx) := hD
        have b301 : kb 0 v299 4000 := kb_eq hw298.2 (hk0.2.2.2.2.2.2 (i5))
        refine lv_sipush (v := 2002) hx hb dX4_readPlain_15 (by decide) ?_
        refine lv_icmp_ne (tgt := 47) hx hb dX4_readPlain_18 (by decide) (fun c302 => ?_) (fun c302 => ?_)
        · have hn8 : ¬ T i5 = 2002 := (fun q => c302 (hw298.2.trans q))
          refine lv_aload_n hx hb dX4_readPlain_47 rfl (lv_at hl 2 rfl) ?_
          refine kIG.callW (As := []) (rest := []) ⟨hx, hb, hml, hown, hg⟩ (y_inHand l r F5 a g tx tt hT hI hG   N (i5) ob T pl hk0 (by rw [egv10.symm]; exact hg11) hvlp6_1.2) (cwV 0 hg (kgV wt3_238 wt4_0 wp1_12 wt1_7 wt4_1) rfl rfl rfl (by decide +kernel) ⟨by dsimp only [rmD]; omega, by dsimp only [rmD]; omega⟩) hV hK hP hD hS hA (50) 4 rfl rfl rfl hl.1 rfl (Nat.le_of_ble_eq_true rfl) dX4_readPlain_48 ⟨Nat.le_refl _, Nat.le_refl _⟩ (fun v304 u305 H locs hw303 hP hD hS => ?_)
          have hP : va_P D vwCl (xX K r F5 a g tx) H := hP
          have hD : va_D A (xX K r F5 a g tx) := hD
          have b306 : kb 0 v304 4000 := kb_eq hw303.2 (hk0.2.2.2.2.2.2 (i5))
          refine lv_sipush (v := 3040) hx hb dX4_readPlain_51 (by decide) ?_
          refine lv_icmp_ne (tgt := 110) hx hb dX4_readPlain_54 (by decide) (fun c307 => ?_) (fun c307 => ?_)
          · refine lv_aload_n hx hb dX4_readPlain_110 rfl (lv_at hl 2 rfl) ?_
            refine lv_iload_n hx hb dX4_readPlain_111 rfl (lv_at hl 3 rfl) ?_
            refine kIG.callW (As := [.int dp]) (rest := []) ⟨hx, hb, hml, hown, hg⟩ (hsum l r F5 a g tx tt hT hI hG dp bdp N (i5) (n5) (s0) ob T pl hk0 (by rw [egv10.symm]; exact hg11) hvlp6_1.2 ⟨(by rw [ez13.symm]; exact hzz13), hvlp6_2.2⟩ ⟨(by show (F5 1637).toInt = ((s0 : Nat) : Int); rw [ezs15.symm]; exact hzzs15), (by omega)⟩ hp5) (cwV 1 hg (kgV wt4_6 wt4_8 wp1_13 wt1_7 wt4_9) rfl rfl rfl (by decide +kernel) ⟨by dsimp only [rmD]; omega, by dsimp only [rmD]; omega⟩) hV hK hP hD hS hA (50) 4 rfl rfl rfl hl.1 rfl (Nat.le_of_ble_eq_true rfl) dX4_readPlain_112 ⟨Nat.le_refl _, Nat.le_refl _⟩ (fun v309 u310 H locs hw308 hP hD hS => ?_)
            obtain ⟨f311, a312, g313⟩ := u310
            have hP : va_P D vwCl (xX K r f311 a312 g313 tx) H := hP
            have hD : va_D A (xX K r f311 a312 g313 tx) := hD
            have hI : xI f311 a312 := hw308.2.1
            have hG : gOK K g313.2 tt := hw308.2.2.1
            have eE314 : xEk ([1604, 1605, 1637], [55], []) F5 a g f311 a312 g313 := hw308.2.2.2.1
            have hE : xEk ([1604, 1605, 1637], [55], []) f a g f311 a312 g313 := xEk_tr hE eE314
            have hk0 : xQ f311 a312 N ob T pl := xQ_c hk0 (eE314.1 1603 rfl) (eE314.1 1606 rfl) ⟨eE314.2.1 56 rfl, eE314.2.1 57 rfl⟩
            obtain ⟨ik315, nk315, hgk315, hlek315, hNk315, hck315⟩ := hw308.2.2.2.2
            rcases hck315 with ⟨hvk315, h3k315, hltk315, hGk315, hcdk315⟩ | ⟨hvk315, hGk315⟩
            · refine k_top (z := 1) hvk315 ?_
              obtain ⟨gv316, egv316⟩ : ∃ z : Int32, z = f311 1604 := ⟨_, rfl⟩
              have hg317 : gv316.toInt = ((ik315 : Nat) : Int) := by rw [egv316]; exact hgk315
              have b318 : kb 0 gv316 400 := kb_pos hNk315 hN4 hg317
              obtain ⟨z319, ez319⟩ : ∃ z : Int32, z = f311 1605 := ⟨_, rfl⟩
              have hzz319 : z319.toInt = ((nk315 : Nat) : Int) := by rw [ez319]; exact h3k315.1
              have b320 : kb 0 z319 50 := ⟨by omega, by have w1 := h3k315.2; omega⟩
              obtain ⟨sk315, wk315, hzk315, hlk315, hqk315, hek315, hrk315⟩ := hcdk315
              obtain ⟨zs321, ezs321⟩ : ∃ z : Int32, z = f311 1637 := ⟨_, rfl⟩
              have hzzs321 : zs321.toInt = ((sk315 : Nat) : Int) := by rw [ezs321]; exact hzk315
              refine lv_if_ne (tgt := 120) hx hb dX4_readPlain_115 (by decide) (fun c322 => ?_) (fun c322 => ?_)
              · refine lv_aload_n hx hb dX4_readPlain_120 rfl (lv_at hl 2 rfl) ?_
                refine kIG.callW (As := []) (rest := []) ⟨hx, hb, hml, hown, hg⟩ (y_inHand l r f311 a312 g313 tx tt hT hI hG   N (ik315) ob T pl hk0 (by rw [egv316.symm]; exact hg317) hNk315) (cwV 0 hg (kgV wt3_238 wt4_0 wp1_12 wt1_7 wt4_1) rfl rfl rfl (by decide +kernel) ⟨by dsimp only [rmD]; omega, by dsimp only [rmD]; omega⟩) hV hK hP hD hS hA (50) 4 rfl rfl rfl hl.1 rfl (Nat.le_of_ble_eq_true rfl) dX4_readPlain_121 ⟨Nat.le_refl _, Nat.le_refl _⟩ (fun v324 u325 H locs hw323 hP hD hS => ?_)
                have hP : va_P D vwCl (xX K r f311 a312 g313 tx) H := hP
                have hD : va_D A (xX K r f311 a312 g313 tx) := hD
                have b326 : kb 0 v324 4000 := kb_eq hw323.2 (hk0.2.2.2.2.2.2 (ik315))
                refine lv_sipush (v := 3060) hx hb dX4_readPlain_124 (by decide) ?_
                refine lv_icmp_ne (tgt := 135) hx hb dX4_readPlain_127 (by decide) (fun c327 => ?_) (fun c327 => ?_)
                · refine lv_aload_n hx hb dX4_readPlain_135 rfl (lv_at hl 2 rfl) ?_
                  refine kIG.callW (As := []) (rest := []) ⟨hx, hb, hml, hown, hg⟩ (y_inHand l r f311 a312 g313 tx tt hT hI hG   N (ik315) ob T pl hk0 (by rw [egv316.symm]; exact hg317) hNk315) (cwV 0 hg (kgV wt3_238 wt4_0 wp1_12 wt1_7 wt4_1) rfl rfl rfl (by decide +kernel) ⟨by dsimp only [rmD]; omega, by dsimp only [rmD]; omega⟩) hV hK hP hD hS hA (50) 4 rfl rfl rfl hl.1 rfl (Nat.le_of_ble_eq_true rfl) dX4_readPlain_136 ⟨Nat.le_refl _, Nat.le_refl _⟩ (fun v329 u330 H locs hw328 hP hD hS => ?_)
                  have hP : va_P D vwCl (xX K r f311 a312 g313 tx) H := hP
                  have hD : va_D A (xX K r f311 a312 g313 tx) := hD
                  have b331 : kb 0 v329 4000 := kb_eq hw328.2 (hk0.2.2.2.2.2.2 (ik315))
                  refine lv_sipush (v := 3062) hx hb dX4_readPlain_139 (by decide) ?_
                  refine lv_icmp_ne (tgt := 150) hx hb dX4_readPlain_142 (by decide) (fun c332 => ?_) (fun c332 => ?_)
                  · refine lv_aload_n hx hb dX4_readPlain_150 rfl (lv_at hl 2 rfl) ?_
                    refine kIG.callW (As := []) (rest := []) ⟨hx, hb, hml, hown, hg⟩ (y_inHand l r f311 a312 g313 tx tt hT hI hG   N (ik315) ob T pl hk0 (by rw [egv316.symm]; exact hg317) hNk315) (cwV 0 hg (kgV wt3_238 wt4_0 wp1_12 wt1_7 wt4_1) rfl rfl rfl (by decide +kernel) ⟨by dsimp only [rmD]; omega, by dsimp only [rmD]; omega⟩) hV hK hP hD hS hA (50) 4 rfl rfl rfl hl.1 rfl (Nat.le_of_ble_eq_true rfl) dX4_readPlain_151 ⟨Nat.le_refl _, Nat.le_refl _⟩ (fun v334 u335 H locs hw333 hP hD hS => ?_)
                    have hP : va_P D vwCl (xX K r f311 a312 g313 tx) H := hP
                    have hD : va_D A (xX K r f311 a312 g313 tx) := hD
                    have b336 : kb 0 v334 4000 := kb_eq hw333.2 (hk0.2.2.2.2.2.2 (ik315))
                    refine lv_sipush (v := 3061) hx hb dX4_readPlain_154 (by decide) ?_
                    refine lv_icmp_ne (tgt := 165) hx hb dX4_readPlain_157 (by decide) (fun c337 => ?_) (fun c337 => ?_)
                    · refine lv_iconst (v := (-1)) hx hb dX4_readPlain_165 (by decide) ?_
                      refine lv_istore_n (lv' := [(3, .int (-1)), (2, .int y4), (0, .ref (r 50)), (1, .int dp)]) hx hb dX4_readPlain_166 rfl hl (by decide) rfl (fun ls hl => ?_)
                      refine lv_iload_n hx hb dX4_readPlain_167 rfl (lv_at hl 0 rfl) ?_
                      refine lv_iconst (v := (-1)) hx hb dX4_readPlain_168 (by decide) ?_
                      refine lv_icmp_ne (tgt := 174) hx hb dX4_readPlain_169 (by decide) (fun c338 => ?_) (fun c338 => ?_)
                      · exact kb_nsame c338 kc_m1 kc_m1
                      · refine lv_iconst (v := 0) hx hb dX4_readPlain_172 (by decide) ?_
                        exact kI_ret (v := 0) hx hb hr hlocks (by decide +kernel) hK hS dX4_readPlain_173 (f311, a312, g313) hP hD ⟨(kb_w kc_0 (by decide) (by decide)), hI, hG, hE, ⟨ik315, 0, (by show (f311 1604).toInt = ((ik315 : Nat) : Int); rw [egv316.symm]; exact hg317), (Nat.le_trans (Nat.le_trans (Nat.le_add_right _ _) hvlp6_1.1) hlek315), hNk315, Or.inr ⟨rfl, xc _ (pi_5n hn8 (pi_10n (fun q => c307 (hw303.2.trans q)) hGk315 (fun q => q.elim (fun q => c327 (hw323.2.trans q)) (fun q => q.elim (fun q => c332 (hw328.2.trans q)) (fun q => c337 (hw333.2.trans q))))))⟩⟩⟩
                    · have b339 : kb 3061 v334 3061 := kb_eq c337 kc_3061
                      refine lv_bipush (v := 12) hx hb dX4_readPlain_160 (by decide) ?_
                      refine lv_goto (tgt := 166) hx hb dX4_readPlain_162 (by decide) ?_
                      refine lv_istore_n (lv' := [(3, .int 12), (2, .int y4), (0, .ref (r 50)), (1, .int dp)]) hx hb dX4_readPlain_166 rfl hl (by decide) rfl (fun ls hl => ?_)
                      refine lv_iload_n hx hb dX4_readPlain_167 rfl (lv_at hl 0 rfl) ?_
                      refine lv_iconst (v := (-1)) hx hb dX4_readPlain_168 (by decide) ?_
                      refine lv_icmp_ne (tgt := 174) hx hb dX4_readPlain_169 (by decide) (fun c340 => ?_) (fun c340 => ?_)
                      · refine lv_aload_n hx hb dX4_readPlain_174 rfl (lv_at hl 2 rfl) ?_
                        refine lv_dup hx hb dX4_readPlain_175 rfl ?_
                        have hlt341 : ik315 < N := xQ_lt hk0 (ne_4000 (hw333.2.symm.trans c337) (by decide +kernel))
                        have b342 : kb 0 gv316 399 := kb_pos1 hlt341 hN4 hg317
                        refine va_get (D := D) (ci := 4) (v := .int (f311 1604)) (C := RX4) (T := TX4) (N := 7) hx hb hg inC4 hown hK hP 50 rfl rfl 4 (by decide) (hg _ wt2_69) (fun _ h9 => h9) rfl dX4_readPlain_176 ?_
                        refine k_top (z := gv316) egv316.symm ?_
                        refine lv_iconst (v := 1) hx hb dX4_readPlain_179 (by decide) ?_
                        refine lv_iadd hx hb dX4_readPlain_180 ?_
                        refine lv_topi (fun t343 et343 => ?_)
                        have b344 : kb 1 t343 400 := kb_eq et343 (kb_add b342 kc_1 (by decide) (by decide))
                        have qt343 : t343.toInt = gv316.toInt + 1 := by rw [et343]; exact kt_addc b342 kc_1 (by decide) (by decide)
                        have hg345 : t343.toInt = ((ik315 + 1 : Nat) : Int) := by rw [qt343, hg317]; omega
                        refine va_put (D := D) (ci := 4) (v := .int t343) (ty := .int) (C := RX4) (T := TX4) (N := 7) hx hb hg inC4 tyX4 tyX4_ok nmX4 hown hK hP hD hS 50 rfl rfl 4 (by decide) (hg _ wt2_69) (fun _ h9 => h9) rfl (by decide +kernel) rfl rfl (Nat.le_of_ble_eq_true rfl) dX4_readPlain_181 (fun H locs hP hD hS => ?_)
                        have hP : va_P D vwCl (xX K r (upd f311 1604 t343) a312 g313 tx) H := hP
                        have hD : va_D A (xX K r (upd f311 1604 t343) a312 g313 tx) := hD
                        refine k_gen (P := fun z => va_P D vwCl (xX K r z a312 g313 tx) H ∧ va_D A (xX K r z a312 g313 tx) ∧ (xI z a312) ∧ (gOK K g313.2 tt) ∧ (xEk ([1604, 1605, 1637], [55], []) f a g z a312 g313) ∧ (xQ z a312 N ob T pl)) (upd f311 1604 t343) ⟨hP, hD, (xI_f hI (fI_st hI.1 1604 (kb_any _) (by decide) (by decide))), hG, (xEk_f hE rfl), (xQ_f hk0 (by decide) (by decide))⟩ (fun f_346 ef_346 hq => ?_)
                        obtain ⟨hP, hD, hI, hG, hE, hk0⟩ := hq
                        refine lv_aload_n hx hb dX4_readPlain_184 rfl (lv_at hl 2 rfl) ?_
                        refine lv_iload_n hx hb dX4_readPlain_185 rfl (lv_at hl 3 rfl) ?_
                        refine kIG.callW (As := [.int dp]) (rest := []) ⟨hx, hb, hml, hown, hg⟩ (hsum l r f_346 a312 g313 tx tt hT hI hG dp bdp N (ik315 + 1) (nk315) (sk315) ob T pl hk0 (by rw [(show f_346 1604 = t343 from by rw [← ef_346]; rfl)]; exact hg345) hlt341 ⟨(by rw [((show f_346 1605 = f311 1605 from by rw [← ef_346]; rfl).trans ez319.symm)]; exact hzz319), h3k315.2⟩ ⟨(by show (f_346 1637).toInt = ((sk315 : Nat) : Int); rw [((show f_346 1637 = f311 1637 from by rw [← ef_346]; rfl).trans ezs321.symm)]; exact hzzs321), (by omega)⟩ hp5) (cwV 1 hg (kgV wt4_6 wt4_8 wp1_13 wt1_7 wt4_9) rfl rfl rfl (by decide +kernel) ⟨by dsimp only [rmD]; omega, by dsimp only [rmD]; omega⟩) hV hK hP hD hS hA (50) 4 rfl rfl rfl hl.1 rfl (Nat.le_of_ble_eq_true rfl) dX4_readPlain_186 ⟨Nat.le_refl _, Nat.le_refl _⟩ (fun v348 u349 H locs hw347 hP hD hS => ?_)
                        obtain ⟨f350, a351, g352⟩ := u349
                        have hP : va_P D vwCl (xX K r f350 a351 g352 tx) H := hP
                        have hD : va_D A (xX K r f350 a351 g352 tx) := hD
                        have hI : xI f350 a351 := hw347.2.1
                        have hG : gOK K g352.2 tt := hw347.2.2.1
                        have eE353 : xEk ([1604, 1605, 1637], [55], []) f_346 a312 g313 f350 a351 g352 := hw347.2.2.2.1
                        have hE : xEk ([1604, 1605, 1637], [55], []) f a g f350 a351 g352 := xEk_tr hE eE353
                        have hk0 : xQ f350 a351 N ob T pl := xQ_c hk0 (eE353.1 1603 rfl) (eE353.1 1606 rfl) ⟨eE353.2.1 56 rfl, eE353.2.1 57 rfl⟩
                        obtain ⟨ik354, nk354, hgk354, hlek354, hNk354, hck354⟩ := hw347.2.2.2.2
                        rcases hck354 with ⟨hvk354, h3k354, hltk354, hGk354, hcdk354⟩ | ⟨hvk354, hGk354⟩
                        · refine k_top (z := 1) hvk354 ?_
                          obtain ⟨gv355, egv355⟩ : ∃ z : Int32, z = f350 1604 := ⟨_, rfl⟩
                          have hg356 : gv355.toInt = ((ik354 : Nat) : Int) := by rw [egv355]; exact hgk354
                          have b357 : kb 0 gv355 400 := kb_pos hNk354 hN4 hg356
                          obtain ⟨z358, ez358⟩ : ∃ z : Int32, z = f350 1605 := ⟨_, rfl⟩
                          have hzz358 : z358.toInt = ((nk354 : Nat) : Int) := by rw [ez358]; exact h3k354.1
                          have b359 : kb 0 z358 50 := ⟨by omega, by have w1 := h3k354.2; omega⟩
                          obtain ⟨sk354, wk354, hzk354, hlk354, hqk354, hek354, hrk354⟩ := hcdk354
                          obtain ⟨zs360, ezs360⟩ : ∃ z : Int32, z = f350 1637 := ⟨_, rfl⟩
                          have hzzs360 : zs360.toInt = ((sk354 : Nat) : Int) := by rw [ezs360]; exact hzk354
                          refine lv_if_ne (tgt := 194) hx hb dX4_readPlain_189 (by decide) (fun c361 => ?_) (fun c361 => ?_)
                          · refine lv_aload_n hx hb dX4_readPlain_194 rfl (lv_at hl 2 rfl) ?_
                            refine va_get (D := D) (ci := 4) (v := .ref (r 51)) (C := RX4) (T := TX4) (N := 7) hx hb hg inC4 hown hK hP 50 rfl rfl 0 (by decide) (hg _ wt2_64) (fun _ h9 => h9) rfl dX4_readPlain_195 ?_
                            refine lv_iload_n hx hb dX4_readPlain_198 rfl (lv_at hl 0 rfl) ?_
                            refine lv_iconst (v := 0) hx hb dX4_readPlain_199 (by decide) ?_
                            refine kIG.callW (As := [.int 12, .int 0]) (rest := []) ⟨hx, hb, hml, hown, hg⟩ (y_emit l r f350 a351 g352 tx tt hT hI hG 12 0 (kb_w kc_12 (by decide) (by decide)) (kb_w kc_0 (by decide) (by decide)) (sk354) (by show (f350 1637).toInt = ((sk354 : Nat) : Int); rw [ezs360.symm]; exact hzzs360) (by omega)) (cwV 2 hg (kgV wt4_14 wt4_15 wt4_16 wt1_8 wt4_17) rfl rfl rfl (by decide +kernel) ⟨by dsimp only [rmD]; omega, by dsimp only [rmD]; omega⟩) hV hK hP hD hS hA (51) 10 rfl rfl rfl hl.1 rfl (Nat.le_of_ble_eq_true rfl) dX4_readPlain_200 ⟨Nat.le_refl _, Nat.le_refl _⟩ (fun v363 u364 H locs hw362 hP hD hS => ?_)
                            obtain ⟨f365, a366, g367⟩ := u364
                            have hP : va_P D vwCl (xX K r f365 a366 g367 tx) H := hP
                            have hD : va_D A (xX K r f365 a366 g367 tx) := hD
                            have hI : xI f365 a366 := hw362.2.1
                            have hG : gOK K g367.2 tt := hw362.2.2.1
                            have eE368 : xEk ([1637], [55], []) f350 a351 g352 f365 a366 g367 := hw362.2.2.2.1
                            have hE : xEk ([1604, 1605, 1637], [55], []) f a g f365 a366 g367 := xEk_tr hE (xEk_w (by decide +kernel) eE368)
                            have hk0 : xQ f365 a366 N ob T pl := xQ_c hk0 (eE368.1 1603 rfl) (eE368.1 1606 rfl) ⟨eE368.2.1 56 rfl, eE368.2.1 57 rfl⟩
                            obtain ⟨zs369, ezs369⟩ : ∃ z : Int32, z = f365 1637 := ⟨_, rfl⟩
                            have hzzs369 : zs369.toInt = ((sk354 + 1 : Nat) : Int) := by rw [ezs369]; exact hw362.2.2.2.2.2.1
                            have hj370 := rn_jn (rn_cg hrk315 (fun p h5 h6 => (hw362.2.2.2.2.2.2.2 p (by have w1 := hrk354.1; omega)).trans (hqk354 p h6))) (rn_cg hrk354 (fun p h5 h6 => hw362.2.2.2.2.2.2.2 p (by omega))) (n := opC (T (ik315))) (by rw [hw362.2.2.2.2.2.2.1, (hw333.2.symm.trans c337)]; decide +kernel) (opC_b _).1 (opC_b _).2 (by omega)
                            refine lv_pop hx hb dX4_readPlain_203 rfl ?_
                            refine lv_aload_n hx hb dX4_readPlain_204 rfl (lv_at hl 2 rfl) ?_
                            refine lv_iload_n hx hb dX4_readPlain_205 rfl (lv_at hl 1 rfl) ?_
                            refine lv_if_eq (tgt := 213) hx hb dX4_readPlain_206 (by decide) (fun c371 => ?_) (fun c371 => ?_)
                            · have b372 : kb 0 y4 0 := kb_eq c371 kc_0
                              refine lv_iconst (v := (-1)) hx hb dX4_readPlain_213 (by decide) ?_
                              refine kVG.callW (As := [.int (-1)]) (rest := []) ⟨hx, hb, hml, hown, hg⟩ (y_emitIfAny l r f365 a366 g367 tx tt hT hI hG (-1) (kb_w kc_m1 (by decide) (by decide)) (sk354 + 1) (by show (f365 1637).toInt = ((sk354 + 1 : Nat) : Int); rw [ezs369.symm]; exact hzzs369) (Or.inl rfl)) (cwV 1 hg (kgV wt4_26 wt4_28 wp2_1 wt1_7 wt4_29) rfl rfl rfl (by decide +kernel) ⟨by dsimp only [rmD]; omega, by dsimp only [rmD]; omega⟩) hV hK hP hD hS hA (50) 4 rfl rfl rfl hl.1 rfl (Nat.le_of_ble_eq_true rfl) dX4_readPlain_214 ⟨Nat.le_refl _, Nat.le_refl _⟩ (fun u375 H locs hw373 hP hD hS => ?_)
                              obtain ⟨f376, a377, g378⟩ := u375
                              have hP : va_P D vwCl (xX K r f376 a377 g378 tx) H := hP
                              have hD : va_D A (xX K r f376 a377 g378 tx) := hD
                              have hI : xI f376 a377 := hw373.1
                              have hG : gOK K g378.2 tt := hw373.2.1
                              have eE379 : xEk ([1637], [55], []) f365 a366 g367 f376 a377 g378 := hw373.2.2.1
                              have hE : xEk ([1604, 1605, 1637], [55], []) f a g f376 a377 g378 := xEk_tr hE (xEk_w (by decide +kernel) eE379)
                              have hk0 : xQ f376 a377 N ob T pl := xQ_c hk0 (eE379.1 1603 rfl) (eE379.1 1606 rfl) ⟨eE379.2.1 56 rfl, eE379.2.1 57 rfl⟩
                              obtain ⟨sk380, hzk380, hemk380⟩ := hw373.2.2.2
                              obtain ⟨zs381, ezs381⟩ : ∃ z : Int32, z = f376 1637 := ⟨_, rfl⟩
                              have hzzs381 : zs381.toInt = ((sk380 : Nat) : Int) := by rw [ezs381]; exact hzk380
                              refine lv_iconst (v := 1) hx hb dX4_readPlain_217 (by decide) ?_
                              exact kI_ret (v := 1) hx hb hr hlocks (by decide +kernel) hK hS dX4_readPlain_218 (f376, a377, g378) hP hD ⟨(kb_w kc_1 (by decide) (by decide)), hI, hG, hE, ⟨ik354, nk354, (by show (f376 1604).toInt = ((ik354 : Nat) : Int); rw [((eE379.1 1604 rfl).trans ((eE368.1 1604 rfl).trans egv355.symm))]; exact hg356), (Nat.le_trans (Nat.le_succ_of_le (Nat.le_trans (Nat.le_trans (Nat.le_add_right _ _) hvlp6_1.1) hlek315)) hlek354), hNk354, Or.inl ⟨rfl, ⟨(by show (f376 1605).toInt = ((nk354 : Nat) : Int); rw [((eE379.1 1605 rfl).trans ((eE368.1 1605 rfl).trans ez358.symm))]; exact hzz358), h3k354.2⟩, (by omega), xc _ (pi_5n hn8 (pi_10c (fun q => c307 (hw303.2.trans q)) hGk315 (Or.inr (Or.inr (hw333.2.symm.trans c337))) hGk354)), (pl_n hemk380 (by show (f376 1637).toInt = ((sk380 : Nat) : Int); rw [ezs381.symm]; exact hzzs381) hj370 (by have w1 := hlk315; have w2 := hlk354; omega) (fun p hp => (hw362.2.2.2.2.2.2.2 p (by have w1 := hrk315.1; have w2 := hrk354.1; omega)).trans ((hqk354 p (by have w1 := hrk315.1; omega)).trans (hqk315 p hp))) (by have w1 := xv _ _ (ei_5n hn8 (ei_10c (fun q => c307 (hw303.2.trans q)) hek315 (Or.inr (Or.inr (hw333.2.symm.trans c337))) hek354)); rw [if_neg (by rw [c371]; decide)] at w1; exact w1) (Nat.le_trans (Nat.le_add_right _ _) hvlp6_1.1))⟩⟩⟩
                            · have b382 : kb 1 y4 1 := kr_nel c371 b9 kc_0 (by decide)
                              refine lv_iconst (v := 2) hx hb dX4_readPlain_209 (by decide) ?_
                              refine lv_goto (tgt := 214) hx hb dX4_readPlain_210 (by decide) ?_
                              refine kVG.callW (As := [.int 2]) (rest := []) ⟨hx, hb, hml, hown, hg⟩ (y_emitIfAny l r f365 a366 g367 tx tt hT hI hG 2 (kb_w kc_2 (by decide) (by decide)) (sk354 + 1) (by show (f365 1637).toInt = ((sk354 + 1 : Nat) : Int); rw [ezs369.symm]; exact hzzs369) (Or.inr (by have w1 := htl.resolve_left (fun q => by have w2 := (b382).1; rw [q] at w2; exact absurd w2 (by decide +kernel)); omega))) (cwV 1 hg (kgV wt4_26 wt4_28 wp2_1 wt1_7 wt4_29) rfl rfl rfl (by decide +kernel) ⟨by dsimp only [rmD]; omega, by dsimp only [rmD]; omega⟩) hV hK hP hD hS hA (50) 4 rfl rfl rfl hl.1 rfl (Nat.le_of_ble_eq_true rfl) dX4_readPlain_214 ⟨Nat.le_refl _, Nat.le_refl _⟩ (fun u385 H locs hw383 hP hD hS => ?_)
                              obtain ⟨f386, a387, g388⟩ := u385
                              have hP : va_P D vwCl (xX K r f386 a387 g388 tx) H := hP
                              have hD : va_D A (xX K r f386 a387 g388 tx) := hD
                              have hI : xI f386 a387 := hw383.1
                              have hG : gOK K g388.2 tt := hw383.2.1
                              have eE389 : xEk ([1637], [55], []) f365 a366 g367 f386 a387 g388 := hw383.2.2.1
                              have hE : xEk ([1604, 1605, 1637], [55], []) f a g f386 a387 g388 := xEk_tr hE (xEk_w (by decide +kernel) eE389)
                              have hk0 : xQ f386 a387 N ob T pl := xQ_c hk0 (eE389.1 1603 rfl) (eE389.1 1606 rfl) ⟨eE389.2.1 56 rfl, eE389.2.1 57 rfl⟩
                              obtain ⟨sk390, hzk390, hemk390⟩ := hw383.2.2.2
                              obtain ⟨zs391, ezs391⟩ : ∃ z : Int32, z = f386 1637 := ⟨_, rfl⟩
                              have hzzs391 : zs391.toInt = ((sk390 : Nat) : Int) := by rw [ezs391]; exact hzk390
                              refine lv_iconst (v := 1) hx hb dX4_readPlain_217 (by decide) ?_
                              exact kI_ret (v := 1) hx hb hr hlocks (by decide +kernel) hK hS dX4_readPlain_218 (f386, a387, g388) hP hD ⟨(kb_w kc_1 (by decide) (by decide)), hI, hG, hE, ⟨ik354, nk354, (by show (f386 1604).toInt = ((ik354 : Nat) : Int); rw [((eE389.1 1604 rfl).trans ((eE368.1 1604 rfl).trans egv355.symm))]; exact hg356), (Nat.le_trans (Nat.le_succ_of_le (Nat.le_trans (Nat.le_trans (Nat.le_add_right _ _) hvlp6_1.1) hlek315)) hlek354), hNk354, Or.inl ⟨rfl, ⟨(by show (f386 1605).toInt = ((nk354 : Nat) : Int); rw [((eE389.1 1605 rfl).trans ((eE368.1 1605 rfl).trans ez358.symm))]; exact hzz358), h3k354.2⟩, (by omega), xc _ (pi_5n hn8 (pi_10c (fun q => c307 (hw303.2.trans q)) hGk315 (Or.inr (Or.inr (hw333.2.symm.trans c337))) hGk354)), (pl_y hemk390 (by show (f386 1637).toInt = ((sk390 : Nat) : Int); rw [ezs391.symm]; exact hzzs391) hj370 (pl_l (by have w1 := hlk315; have w2 := hlk354; omega) (htl.resolve_left (fun q => by have w2 := (b382).1; rw [q] at w2; exact absurd w2 (by decide +kernel)))) (fun p hp => (hw362.2.2.2.2.2.2.2 p (by have w1 := hrk315.1; have w2 := hrk354.1; omega)).trans ((hqk354 p (by have w1 := hrk315.1; omega)).trans (hqk315 p hp))) (by have w1 := xv _ _ (ei_5n hn8 (ei_10c (fun q => c307 (hw303.2.trans q)) hek315 (Or.inr (Or.inr (hw333.2.symm.trans c337))) hek354)); rw [if_pos (kb_11 b382)] at w1; exact w1))⟩⟩⟩
                          · exact kb_dj c361 kc_1 kc_0 (by decide)
                        · refine k_top (z := 0) hvk354 ?_
                          obtain ⟨gv392, egv392⟩ : ∃ z : Int32, z = f350 1604 := ⟨_, rfl⟩
                          have hg393 : gv392.toInt = ((ik354 : Nat) : Int) := by rw [egv392]; exact hgk354
                          have b394 : kb 0 gv392 400 := kb_pos hNk354 hN4 hg393
                          refine lv_if_ne (tgt := 194) hx hb dX4_readPlain_189 (by decide) (fun c395 => ?_) (fun c395 => ?_)
                          · exact kb_nsame c395 kc_0 kc_0
                          · refine lv_iconst (v := 0) hx hb dX4_readPlain_192 (by decide) ?_
                            exact kI_ret (v := 0) hx hb hr hlocks (by decide +kernel) hK hS dX4_readPlain_193 (f350, a351, g352) hP hD ⟨(kb_w kc_0 (by decide) (by decide)), hI, hG, hE, ⟨ik354, 0, (by show (f350 1604).toInt = ((ik354 : Nat) : Int); rw [egv392.symm]; exact hg393), (Nat.le_trans (Nat.le_succ_of_le (Nat.le_trans (Nat.le_trans (Nat.le_add_right _ _) hvlp6_1.1) hlek315)) hlek354), hNk354, Or.inr ⟨rfl, xc _ (pi_5n hn8 (pi_10c (fun q => c307 (hw303.2.trans q)) hGk315 (Or.inr (Or.inr (hw333.2.symm.trans c337))) hGk354))⟩⟩⟩
                      · exact kb_dj c340 kc_12 kc_m1 (by decide)
                  · have b396 : kb 3062 v329 3062 := kb_eq c332 kc_3062
                    refine lv_bipush (v := 11) hx hb dX4_readPlain_145 (by decide) ?_
                    refine lv_goto (tgt := 166) hx hb dX4_readPlain_147 (by decide) ?_
                    refine lv_istore_n (lv' := [(3, .int 11), (2, .int y4), (0, .ref (r 50)), (1, .int dp)]) hx hb dX4_readPlain_166 rfl hl (by decide) rfl (fun ls hl => ?_)
                    refine lv_iload_n hx hb dX4_readPlain_167 rfl (lv_at hl 0 rfl) ?_
                    refine lv_iconst (v := (-1)) hx hb dX4_readPlain_168 (by decide) ?_
                    refine lv_icmp_ne (tgt := 174) hx hb dX4_readPlain_169 (by decide) (fun c397 => ?_) (fun c397 => ?_)
                    · refine lv_aload_n hx hb dX4_readPlain_174 rfl (lv_at hl 2 rfl) ?_
                      refine lv_dup hx hb dX4_readPlain_175 rfl ?_
                      have hlt398 : ik315 < N := xQ_lt hk0 (ne_4000 (hw328.2.symm.trans c332) (by decide +kernel))
                      have b399 : kb 0 gv316 399 := kb_pos1 hlt398 hN4 hg317
                      refine va_get (D := D) (ci := 4) (v := .int (f311 1604)) (C := RX4) (T := TX4) (N := 7) hx hb hg inC4 hown hK hP 50 rfl rfl 4 (by decide) (hg _ wt2_69) (fun _ h9 => h9) rfl dX4_readPlain_176 ?_
                      refine k_top (z := gv316) egv316.symm ?_
                      refine lv_iconst (v := 1) hx hb dX4_readPlain_179 (by decide) ?_
                      refine lv_iadd hx hb dX4_readPlain_180 ?_
                      refine lv_topi (fun t400 et400 => ?_)
                      have b401 : kb 1 t400 400 := kb_eq et400 (kb_add b399 kc_1 (by decide) (by decide))
                      have qt400 : t400.toInt = gv316.toInt + 1 := by rw [et400]; exact kt_addc b399 kc_1 (by decide) (by decide)
                      have hg402 : t400.toInt = ((ik315 + 1 : Nat) : Int) := by rw [qt400, hg317]; omega
                      refine va_put (D := D) (ci := 4) (v := .int t400) (ty := .int) (C := RX4) (T := TX4) (N := 7) hx hb hg inC4 tyX4 tyX4_ok nmX4 hown hK hP hD hS 50 rfl rfl 4 (by decide) (hg _ wt2_69) (fun _ h9 => h9) rfl (by decide +kernel) rfl rfl (Nat.le_of_ble_eq_true rfl) dX4_readPlain_181 (fun H locs hP hD hS => ?_)
                      have hP : va_P D vwCl (xX K r (upd f311 1604 t400) a312 g313 tx) H := hP
                      have hD : va_D A (xX K r (upd f311 1604 t400) a312 g313 tx) := hD
                      refine k_gen (P := fun z => va_P D vwCl (xX K r z a312 g313 tx) H ∧ va_D A (xX K r z a312 g313 tx) ∧ (xI z a312) ∧ (gOK K g313.2 tt) ∧ (xEk ([1604, 1605, 1637], [55], []) f a g z a312 g313) ∧ (xQ z a312 N ob T pl)) (upd f311 1604 t400) ⟨hP, hD, (xI_f hI (fI_st hI.1 1604 (kb_any _) (by decide) (by decide))), hG, (xEk_f hE rfl), (xQ_f hk0 (by decide) (by decide))⟩ (fun f_403 ef_403 hq => ?_)
                      obtain ⟨hP, hD, hI, hG, hE, hk0⟩ := hq
                      refine lv_aload_n hx hb dX4_readPlain_184 rfl (lv_at hl 2 rfl) ?_
                      refine lv_iload_n hx hb dX4_readPlain_185 rfl (lv_at hl 3 rfl) ?_
                      refine kIG.callW (As := [.int dp]) (rest := []) ⟨hx, hb, hml, hown, hg⟩ (hsum l r f_403 a312 g313 tx tt hT hI hG dp bdp N (ik315 + 1) (nk315) (sk315) ob T pl hk0 (by rw [(show f_403 1604 = t400 from by rw [← ef_403]; rfl)]; exact hg402) hlt398 ⟨(by rw [((show f_403 1605 = f311 1605 from by rw [← ef_403]; rfl).trans ez319.symm)]; exact hzz319), h3k315.2⟩ ⟨(by show (f_403 1637).toInt = ((sk315 : Nat) : Int); rw [((show f_403 1637 = f311 1637 from by rw [← ef_403]; rfl).trans ezs321.symm)]; exact hzzs321), (by omega)⟩ hp5) (cwV 1 hg (kgV wt4_6 wt4_8 wp1_13 wt1_7 wt4_9) rfl rfl rfl (by decide +kernel) ⟨by dsimp only [rmD]; omega, by dsimp only [rmD]; omega⟩) hV hK hP hD hS hA (50) 4 rfl rfl rfl hl.1 rfl (Nat.le_of_ble_eq_true rfl) dX4_readPlain_186 ⟨Nat.le_refl _, Nat.le_refl _⟩ (fun v405 u406 H locs hw404 hP hD hS => ?_)
                      obtain ⟨f407, a408, g409⟩ := u406
                      have hP : va_P D vwCl (xX K r f407 a408 g409 tx) H := hP
                      have hD : va_D A (xX K r f407 a408 g409 tx) := hD
                      have hI : xI f407 a408 := hw404.2.1
                      have hG : gOK K g409.2 tt := hw404.2.2.1
                      have eE410 : xEk ([1604, 1605, 1637], [55], []) f_403 a312 g313 f407 a408 g409 := hw404.2.2.2.1
                      have hE : xEk ([1604, 1605, 1637], [55], []) f a g f407 a408 g409 := xEk_tr hE eE410
                      have hk0 : xQ f407 a408 N ob T pl := xQ_c hk0 (eE410.1 1603 rfl) (eE410.1 1606 rfl) ⟨eE410.2.1 56 rfl, eE410.2.1 57 rfl⟩
                      obtain ⟨ik411, nk411, hgk411, hlek411, hNk411, hck411⟩ := hw404.2.2.2.2
                      rcases hck411 with ⟨hvk411, h3k411, hltk411, hGk411, hcdk411⟩ | ⟨hvk411, hGk411⟩
                      · refine k_top (z := 1) hvk411 ?_
                        obtain ⟨gv412, egv412⟩ : ∃ z : Int32, z = f407 1604 := ⟨_, rfl⟩
                        have hg413 : gv412.toInt = ((ik411 : Nat) : Int) := by rw [egv412]; exact hgk411
                        have b414 : kb 0 gv412 400 := kb_pos hNk411 hN4 hg413
                        obtain ⟨z415, ez415⟩ : ∃ z : Int32, z = f407 1605 := ⟨_, rfl⟩
                        have hzz415 : z415.toInt = ((nk411 : Nat) : Int) := by rw [ez415]; exact h3k411.1
                        have b416 : kb 0 z415 50 := ⟨by omega, by have w1 := h3k411.2; omega⟩
                        obtain ⟨sk411, wk411, hzk411, hlk411, hqk411, hek411, hrk411⟩ := hcdk411
                        obtain ⟨zs417, ezs417⟩ : ∃ z : Int32, z = f407 1637 := ⟨_, rfl⟩
                        have hzzs417 : zs417.toInt = ((sk411 : Nat) : Int) := by rw [ezs417]; exact hzk411
                        refine lv_if_ne (tgt := 194) hx hb dX4_readPlain_189 (by decide) (fun c418 => ?_) (fun c418 => ?_)
                        · refine lv_aload_n hx hb dX4_readPlain_194 rfl (lv_at hl 2 rfl) ?_
                          refine va_get (D := D) (ci := 4) (v := .ref (r 51)) (C := RX4) (T := TX4) (N := 7) hx hb hg inC4 hown hK hP 50 rfl rfl 0 (by decide) (hg _ wt2_64) (fun _ h9 => h9) rfl dX4_readPlain_195 ?_
                          refine lv_iload_n hx hb dX4_readPlain_198 rfl (lv_at hl 0 rfl) ?_
                          refine lv_iconst (v := 0) hx hb dX4_readPlain_199 (by decide) ?_
                          refine kIG.callW (As := [.int 11, .int 0]) (rest := []) ⟨hx, hb, hml, hown, hg⟩ (y_emit l r f407 a408 g409 tx tt hT hI hG 11 0 (kb_w kc_11 (by decide) (by decide)) (kb_w kc_0 (by decide) (by decide)) (sk411) (by show (f407 1637).toInt = ((sk411 : Nat) : Int); rw [ezs417.symm]; exact hzzs417) (by omega)) (cwV 2 hg (kgV wt4_14 wt4_15 wt4_16 wt1_8 wt4_17) rfl rfl rfl (by decide +kernel) ⟨by dsimp only [rmD]; omega, by dsimp only [rmD]; omega⟩) hV hK hP hD hS hA (51) 10 rfl rfl rfl hl.1 rfl (Nat.le_of_ble_eq_true rfl) dX4_readPlain_200 ⟨Nat.le_refl _, Nat.le_refl _⟩ (fun v420 u421 H locs hw419 hP hD hS => ?_)
                          obtain ⟨f422, a423, g424⟩ := u421
                          have hP : va_P D vwCl (xX K r f422 a423 g424 tx) H := hP
                          have hD : va_D A (xX K r f422 a423 g424 tx) := hD
                          have hI : xI f422 a423 := hw419.2.1
                          have hG : gOK K g424.2 tt := hw419.2.2.1
                          have eE425 : xEk ([1637], [55], []) f407 a408 g409 f422 a423 g424 := hw419.2.2.2.1
                          have hE : xEk ([1604, 1605, 1637], [55], []) f a g f422 a423 g424 := xEk_tr hE (xEk_w (by decide +kernel) eE425)
                          have hk0 : xQ f422 a423 N ob T pl := xQ_c hk0 (eE425.1 1603 rfl) (eE425.1 1606 rfl) ⟨eE425.2.1 56 rfl, eE425.2.1 57 rfl⟩
                          obtain ⟨zs426, ezs426⟩ : ∃ z : Int32, z = f422 1637 := ⟨_, rfl⟩
                          have hzzs426 : zs426.toInt = ((sk411 + 1 : Nat) : Int) := by rw [ezs426]; exact hw419.2.2.2.2.2.1
                          have hj427 := rn_jn (rn_cg hrk315 (fun p h5 h6 => (hw419.2.2.2.2.2.2.2 p (by have w1 := hrk411.1; omega)).trans (hqk411 p h6))) (rn_cg hrk411 (fun p h5 h6 => hw419.2.2.2.2.2.2.2 p (by omega))) (n := opC (T (ik315))) (by rw [hw419.2.2.2.2.2.2.1, (hw328.2.symm.trans c332)]; decide +kernel) (opC_b _).1 (opC_b _).2 (by omega)
                          refine lv_pop hx hb dX4_readPlain_203 rfl ?_
                          refine lv_aload_n hx hb dX4_readPlain_204 rfl (lv_at hl 2 rfl) ?_
                          refine lv_iload_n hx hb dX4_readPlain_205 rfl (lv_at hl 1 rfl) ?_
                          refine lv_if_eq (tgt := 213) hx hb dX4_readPlain_206 (by decide) (fun c428 => ?_) (fun c428 => ?_)
                          · have b429 : kb 0 y4 0 := kb_eq c428 kc_0
                            refine lv_iconst (v := (-1)) hx hb dX4_readPlain_213 (by decide) ?_
                            refine kVG.callW (As := [.int (-1)]) (rest := []) ⟨hx, hb, hml, hown, hg⟩ (y_emitIfAny l r f422 a423 g424 tx tt hT hI hG (-1) (kb_w kc_m1 (by decide) (by decide)) (sk411 + 1) (by show (f422 1637).toInt = ((sk411 + 1 : Nat) : Int); rw [ezs426.symm]; exact hzzs426) (Or.inl rfl)) (cwV 1 hg (kgV wt4_26 wt4_28 wp2_1 wt1_7 wt4_29) rfl rfl rfl (by decide +kernel) ⟨by dsimp only [rmD]; omega, by dsimp only [rmD]; omega⟩) hV hK hP hD hS hA (50) 4 rfl rfl rfl hl.1 rfl (Nat.le_of_ble_eq_true rfl) dX4_readPlain_214 ⟨Nat.le_refl _, Nat.le_refl _⟩ (fun u432 H locs hw430 hP hD hS => ?_)
                            obtain ⟨f433, a434, g435⟩ := u432
                            have hP : va_P D vwCl (xX K r f433 a434 g435 tx) H := hP
                            have hD : va_D A (xX K r f433 a434 g435 tx) := hD
                            have hI : xI f433 a434 := hw430.1
                            have hG : gOK K g435.2 tt := hw430.2.1
                            have eE436 : xEk ([1637], [55], []) f422 a423 g424 f433 a434 g435 := hw430.2.2.1
                            have hE : xEk ([1604, 1605, 1637], [55], []) f a g f433 a434 g435 := xEk_tr hE (xEk_w (by decide +kernel) eE436)
                            have hk0 : xQ f433 a434 N ob T pl := xQ_c hk0 (eE436.1 1603 rfl) (eE436.1 1606 rfl) ⟨eE436.2.1 56 rfl, eE436.2.1 57 rfl⟩
                            obtain ⟨sk437, hzk437, hemk437⟩ := hw430.2.2.2
                            obtain ⟨zs438, ezs438⟩ : ∃ z : Int32, z = f433 1637 := ⟨_, rfl⟩
                            have hzzs438 : zs438.toInt = ((sk437 : Nat) : Int) := by rw [ezs438]; exact hzk437
                            refine lv_iconst (v := 1) hx hb dX4_readPlain_217 (by decide) ?_
                            exact kI_ret (v := 1) hx hb hr hlocks (by decide +kernel) hK hS dX4_readPlain_218 (f433, a434, g435) hP hD ⟨(kb_w kc_1 (by decide) (by decide)), hI, hG, hE, ⟨ik411, nk411, (by show (f433 1604).toInt = ((ik411 : Nat) : Int); rw [((eE436.1 1604 rfl).trans ((eE425.1 1604 rfl).trans egv412.symm))]; exact hg413), (Nat.le_trans (Nat.le_succ_of_le (Nat.le_trans (Nat.le_trans (Nat.le_add_right _ _) hvlp6_1.1) hlek315)) hlek411), hNk411, Or.inl ⟨rfl, ⟨(by show (f433 1605).toInt = ((nk411 : Nat) : Int); rw [((eE436.1 1605 rfl).trans ((eE425.1 1605 rfl).trans ez415.symm))]; exact hzz415), h3k411.2⟩, (by omega), xc _ (pi_5n hn8 (pi_10c (fun q => c307 (hw303.2.trans q)) hGk315 (Or.inr (Or.inl (hw328.2.symm.trans c332))) hGk411)), (pl_n hemk437 (by show (f433 1637).toInt = ((sk437 : Nat) : Int); rw [ezs438.symm]; exact hzzs438) hj427 (by have w1 := hlk315; have w2 := hlk411; omega) (fun p hp => (hw419.2.2.2.2.2.2.2 p (by have w1 := hrk315.1; have w2 := hrk411.1; omega)).trans ((hqk411 p (by have w1 := hrk315.1; omega)).trans (hqk315 p hp))) (by have w1 := xv _ _ (ei_5n hn8 (ei_10c (fun q => c307 (hw303.2.trans q)) hek315 (Or.inr (Or.inl (hw328.2.symm.trans c332))) hek411)); rw [if_neg (by rw [c428]; decide)] at w1; exact w1) (Nat.le_trans (Nat.le_add_right _ _) hvlp6_1.1))⟩⟩⟩
                          · have b439 : kb 1 y4 1 := kr_nel c428 b9 kc_0 (by decide)
                            refine lv_iconst (v := 2) hx hb dX4_readPlain_209 (by decide) ?_
                            refine lv_goto (tgt := 214) hx hb dX4_readPlain_210 (by decide) ?_
                            refine kVG.callW (As := [.int 2]) (rest := []) ⟨hx, hb, hml, hown, hg⟩ (y_emitIfAny l r f422 a423 g424 tx tt hT hI hG 2 (kb_w kc_2 (by decide) (by decide)) (sk411 + 1) (by show (f422 1637).toInt = ((sk411 + 1 : Nat) : Int); rw [ezs426.symm]; exact hzzs426) (Or.inr (by have w1 := htl.resolve_left (fun q => by have w2 := (b439).1; rw [q] at w2; exact absurd w2 (by decide +kernel)); omega))) (cwV 1 hg (kgV wt4_26 wt4_28 wp2_1 wt1_7 wt4_29) rfl rfl rfl (by decide +kernel) ⟨by dsimp only [rmD]; omega, by dsimp only [rmD]; omega⟩) hV hK hP hD hS hA (50) 4 rfl rfl rfl hl.1 rfl (Nat.le_of_ble_eq_true rfl) dX4_readPlain_214 ⟨Nat.le_refl _, Nat.le_refl _⟩ (fun u442 H locs hw440 hP hD hS => ?_)
                            obtain ⟨f443, a444, g445⟩ := u442
                            have hP : va_P D vwCl (xX K r f443 a444 g445 tx) H := hP
                            have hD : va_D A (xX K r f443 a444 g445 tx) := hD
                            have hI : xI f443 a444 := hw440.1
                            have hG : gOK K g445.2 tt := hw440.2.1
                            have eE446 : xEk ([1637], [55], []) f422 a423 g424 f443 a444 g445 := hw440.2.2.1
                            have hE : xEk ([1604, 1605, 1637], [55], []) f a g f443 a444 g445 := xEk_tr hE (xEk_w (by decide +kernel) eE446)
                            have hk0 : xQ f443 a444 N ob T pl := xQ_c hk0 (eE446.1 1603 rfl) (eE446.1 1606 rfl) ⟨eE446.2.1 56 rfl, eE446.2.1 57 rfl⟩
                            obtain ⟨sk447, hzk447, hemk447⟩ := hw440.2.2.2
                            obtain ⟨zs448, ezs448⟩ : ∃ z : Int32, z = f443 1637 := ⟨_, rfl⟩
                            have hzzs448 : zs448.toInt = ((sk447 : Nat) : Int) := by rw [ezs448]; exact hzk447
                            refine lv_iconst (v := 1) hx hb dX4_readPlain_217 (by decide) ?_
                            exact kI_ret (v := 1) hx hb hr hlocks (by decide +kernel) hK hS dX4_readPlain_218 (f443, a444, g445) hP hD ⟨(kb_w kc_1 (by decide) (by decide)), hI, hG, hE, ⟨ik411, nk411, (by show (f443 1604).toInt = ((ik411 : Nat) : Int); rw [((eE446.1 1604 rfl).trans ((eE425.1 1604 rfl).trans egv412.symm))]; exact hg413), (Nat.le_trans (Nat.le_succ_of_le (Nat.le_trans (Nat.le_trans (Nat.le_add_right _ _) hvlp6_1.1) hlek315)) hlek411), hNk411, Or.inl ⟨rfl, ⟨(by show (f443 1605).toInt = ((nk411 : Nat) : Int); rw [((eE446.1 1605 rfl).trans ((eE425.1 1605 rfl).trans ez415.symm))]; exact hzz415), h3k411.2⟩, (by omega), xc _ (pi_5n hn8 (pi_10c (fun q => c307 (hw303.2.trans q)) hGk315 (Or.inr (Or.inl (hw328.2.symm.trans c332))) hGk411)), (pl_y hemk447 (by show (f443 1637).toInt = ((sk447 : Nat) : Int); rw [ezs448.symm]; exact hzzs448) hj427 (pl_l (by have w1 := hlk315; have w2 := hlk411; omega) (htl.resolve_left (fun q => by have w2 := (b439).1; rw [q] at w2; exact absurd w2 (by decide +kernel)))) (fun p hp => (hw419.2.2.2.2.2.2.2 p (by have w1 := hrk315.1; have w2 := hrk411.1; omega)).trans ((hqk411 p (by have w1 := hrk315.1; omega)).trans (hqk315 p hp))) (by have w1 := xv _ _ (ei_5n hn8 (ei_10c (fun q => c307 (hw303.2.trans q)) hek315 (Or.inr (Or.inl (hw328.2.symm.trans c332))) hek411)); rw [if_pos (kb_11 b439)] at w1; exact w1))⟩⟩⟩
                        · exact kb_dj c418 kc_1 kc_0 (by decide)
                      · refine k_top (z := 0) hvk411 ?_
                        obtain ⟨gv449, egv449⟩ : ∃ z : Int32, z = f407 1604 := ⟨_, rfl⟩
                        have hg450 : gv449.toInt = ((ik411 : Nat) : Int) := by rw [egv449]; exact hgk411
                        have b451 : kb 0 gv449 400 := kb_pos hNk411 hN4 hg450
                        refine lv_if_ne (tgt := 194) hx hb dX4_readPlain_189 (by decide) (fun c452 => ?_) (fun c452 => ?_)
                        · exact kb_nsame c452 kc_0 kc_0
                        · refine lv_iconst (v := 0) hx hb dX4_readPlain_192 (by decide) ?_
                          exact kI_ret (v := 0) hx hb hr hlocks (by decide +kernel) hK hS dX4_readPlain_193 (f407, a408, g409) hP hD ⟨(kb_w kc_0 (by decide) (by decide)), hI, hG, hE, ⟨ik411, 0, (by show (f407 1604).toInt = ((ik411 : Nat) : Int); rw [egv449.symm]; exact hg450), (Nat.le_trans (Nat.le_succ_of_le (Nat.le_trans (Nat.le_trans (Nat.le_add_right _ _) hvlp6_1.1) hlek315)) hlek411), hNk411, Or.inr ⟨rfl, xc _ (pi_5n hn8 (pi_10c (fun q => c307 (hw303.2.trans q)) hGk315 (Or.inr (Or.inl (hw328.2.symm.trans c332))) hGk411))⟩⟩⟩
                    · exact kb_dj c397 kc_11 kc_m1 (by decide)
                · have b453 : kb 3060 v324 3060 := kb_eq c327 kc_3060
                  refine lv_bipush (v := 10) hx hb dX4_readPlain_130 (by decide) ?_
                  refine lv_goto (tgt := 166) hx hb dX4_readPlain_132 (by decide) ?_
                  refine lv_istore_n (lv' := [(3, .int 10), (2, .int y4), (0, .ref (r 50)), (1, .int dp)]) hx hb dX4_readPlain_166 rfl hl (by decide) rfl (fun ls hl => ?_)
                  refine lv_iload_n hx hb dX4_readPlain_167 rfl (lv_at hl 0 rfl) ?_
                  refine lv_iconst (v := (-1)) hx hb dX4_readPlain_168 (by decide) ?_
                  refine lv_icmp_ne (tgt := 174) hx hb dX4_readPlain_169 (by decide) (fun c454 => ?_) (fun c454 => ?_)
                  · refine lv_aload_n hx hb dX4_readPlain_174 rfl (lv_at hl 2 rfl) ?_
                    refine lv_dup hx hb dX4_readPlain_175 rfl ?_
                    have hlt455 : ik315 < N := xQ_lt hk0 (ne_4000 (hw323.2.symm.trans c327) (by decide +kernel))
                    have b456 : kb 0 gv316 399 := kb_pos1 hlt455 hN4 hg317
                    refine va_get (D := D) (ci := 4) (v := .int (f311 1604)) (C := RX4) (T := TX4) (N := 7) hx hb hg inC4 hown hK hP 50 rfl rfl 4 (by decide) (hg _ wt2_69) (fun _ h9 => h9) rfl dX4_readPlain_176 ?_
                    refine k_top (z := gv316) egv316.symm ?_
                    refine lv_iconst (v := 1) hx hb dX4_readPlain_179 (by decide) ?_
                    refine lv_iadd hx hb dX4_readPlain_180 ?_
                    refine lv_topi (fun t457 et457 => ?_)
                    have b458 : kb 1 t457 400 := kb_eq et457 (kb_add b456 kc_1 (by decide) (by decide))
                    have qt457 : t457.toInt = gv316.toInt + 1 := by rw [et457]; exact kt_addc b456 kc_1 (by decide) (by decide)
                    have hg459 : t457.toInt = ((ik315 + 1 : Nat) : Int) := by rw [qt457, hg317]; omega
                    refine va_put (D := D) (ci := 4) (v := .int t457) (ty := .int) (C := RX4) (T := TX4) (N := 7) hx hb hg inC4 tyX4 tyX4_ok nmX4 hown hK hP hD hS 50 rfl rfl 4 (by decide) (hg _ wt2_69) (fun _ h9 => h9) rfl (by decide +kernel) rfl rfl (Nat.le_of_ble_eq_true rfl) dX4_readPlain_181 (fun H locs hP hD hS => ?_)
                    have hP : va_P D vwCl (xX K r (upd f311 1604 t457) a312 g313 tx) H := hP
                    have hD : va_D A (xX K r (upd f311 1604 t457) a312 g313 tx) := hD
                    refine k_gen (P := fun z => va_P D vwCl (xX K r z a312 g313 tx) H ∧ va_D A (xX K r z a312 g313 tx) ∧ (xI z a312) ∧ (gOK K g313.2 tt) ∧ (xEk ([1604, 1605, 1637], [55], []) f a g z a312 g313) ∧ (xQ z a312 N ob T pl)) (upd f311 1604 t457) ⟨hP, hD, (xI_f hI (fI_st hI.1 1604 (kb_any _) (by decide) (by decide))), hG, (xEk_f hE rfl), (xQ_f hk0 (by decide) (by decide))⟩ (fun f_460 ef_460 hq => ?_)
                    obtain ⟨hP, hD, hI, hG, hE, hk0⟩ := hq
                    refine lv_aload_n hx hb dX4_readPlain_184 rfl (lv_at hl 2 rfl) ?_
                    refine lv_iload_n hx hb dX4_readPlain_185 rfl (lv_at hl 3 rfl) ?_
                    refine kIG.callW (As := [.int dp]) (rest := []) ⟨hx, hb, hml, hown, hg⟩ (hsum l r f_460 a312 g313 tx tt hT hI hG dp bdp N (ik315 + 1) (nk315) (sk315) ob T pl hk0 (by rw [(show f_460 1604 = t457 from by rw [← ef_460]; rfl)]; exact hg459) hlt455 ⟨(by rw [((show f_460 1605 = f311 1605 from by rw [← ef_460]; rfl).trans ez319.symm)]; exact hzz319), h3k315.2⟩ ⟨(by show (f_460 1637).toInt = ((sk315 : Nat) : Int); rw [((show f_460 1637 = f311 1637 from by rw [← ef_460]; rfl).trans ezs321.symm)]; exact hzzs321), (by omega)⟩ hp5) (cwV 1 hg (kgV wt4_6 wt4_8 wp1_13 wt1_7 wt4_9) rfl rfl rfl (by decide +kernel) ⟨by dsimp only [rmD]; omega, by dsimp only [rmD]; omega⟩) hV hK hP hD hS hA (50) 4 rfl rfl rfl hl.1 rfl (Nat.le_of_ble_eq_true rfl) dX4_readPlain_186 ⟨Nat.le_refl _, Nat.le_refl _⟩ (fun v462 u463 H locs hw461 hP hD hS => ?_)
                    obtain ⟨f464, a465, g466⟩ := u463
                    have hP : va_P D vwCl (xX K r f464 a465 g466 tx) H := hP
                    have hD : va_D A (xX K r f464 a465 g466 tx) := hD
                    have hI : xI f464 a465 := hw461.2.1
                    have hG : gOK K g466.2 tt := hw461.2.2.1
                    have eE467 : xEk ([1604, 1605, 1637], [55], []) f_460 a312 g313 f464 a465 g466 := hw461.2.2.2.1
                    have hE : xEk ([1604, 1605, 1637], [55], []) f a g f464 a465 g466 := xEk_tr hE eE467
                    have hk0 : xQ f464 a465 N ob T pl := xQ_c hk0 (eE467.1 1603 rfl) (eE467.1 1606 rfl) ⟨eE467.2.1 56 rfl, eE467.2.1 57 rfl⟩
                    obtain ⟨ik468, nk468, hgk468, hlek468, hNk468, hck468⟩ := hw461.2.2.2.2
                    rcases hck468 with ⟨hvk468, h3k468, hltk468, hGk468, hcdk468⟩ | ⟨hvk468, hGk468⟩
                    · refine k_top (z := 1) hvk468 ?_
                      obtain ⟨gv469, egv469⟩ : ∃ z : Int32, z = f464 1604 := ⟨_, rfl⟩
                      have hg470 : gv469.toInt = ((ik468 : Nat) : Int) := by rw [egv469]; exact hgk468
                      have b471 : kb 0 gv469 400 := kb_pos hNk468 hN4 hg470
                      obtain ⟨z472, ez472⟩ : ∃ z : Int32, z = f464 1605 := ⟨_, rfl⟩
                      have hzz472 : z472.toInt = ((nk468 : Nat) : Int) := by rw [ez472]; exact h3k468.1
                      have b473 : kb 0 z472 50 := ⟨by omega, by have w1 := h3k468.2; omega⟩
                      obtain ⟨sk468, wk468, hzk468, hlk468, hqk468, hek468, hrk468⟩ := hcdk468
                      obtain ⟨zs474, ezs474⟩ : ∃ z : Int32, z = f464 1637 := ⟨_, rfl⟩
                      have hzzs474 : zs474.toInt = ((sk468 : Nat) : Int) := by rw [ezs474]; exact hzk468
                      refine lv_if_ne (tgt := 194) hx hb dX4_readPlain_189 (by decide) (fun c475 => ?_) (fun c475 => ?_)
                      · refine lv_aload_n hx hb dX4_readPlain_194 rfl (lv_at hl 2 rfl) ?_
                        refine va_get (D := D) (ci := 4) (v := .ref (r 51)) (C := RX4) (T := TX4) (N := 7) hx hb hg inC4 hown hK hP 50 rfl rfl 0 (by decide) (hg _ wt2_64) (fun _ h9 => h9) rfl dX4_readPlain_195 ?_
                        refine lv_iload_n hx hb dX4_readPlain_198 rfl (lv_at hl 0 rfl) ?_
                        refine lv_iconst (v := 0) hx hb dX4_readPlain_199 (by decide) ?_
                        refine kIG.callW (As := [.int 10, .int 0]) (rest := []) ⟨hx, hb, hml, hown, hg⟩ (y_emit l r f464 a465 g466 tx tt hT hI hG 10 0 (kb_w kc_10 (by decide) (by decide)) (kb_w kc_0 (by decide) (by decide)) (sk468) (by show (f464 1637).toInt = ((sk468 : Nat) : Int); rw [ezs474.symm]; exact hzzs474) (by omega)) (cwV 2 hg (kgV wt4_14 wt4_15 wt4_16 wt1_8 wt4_17) rfl rfl rfl (by decide +kernel) ⟨by dsimp only [rmD]; omega, by dsimp only [rmD]; omega⟩) hV hK hP hD hS hA (51) 10 rfl rfl rfl hl.1 rfl (Nat.le_of_ble_eq_true rfl) dX4_readPlain_200 ⟨Nat.le_refl _, Nat.le_refl _⟩ (fun v477 u478 H locs hw476 hP hD hS => ?_)
                        obtain ⟨f479, a480, g481⟩ := u478
                        have hP : va_P D vwCl (xX K r f479 a480 g481 tx) H := hP
                        have hD : va_D A (xX K r f479 a480 g481 tx) := hD
                        have hI : xI f479 a480 := hw476.2.1
                        have hG : gOK K g481.2 tt := hw476.2.2.1
                        have eE482 : xEk ([1637], [55], []) f464 a465 g466 f479 a480 g481 := hw476.2.2.2.1
                        have hE : xEk ([1604, 1605, 1637], [55], []) f a g f479 a480 g481 := xEk_tr hE (xEk_w (by decide +kernel) eE482)
                        have hk0 : xQ f479 a480 N ob T pl := xQ_c hk0 (eE482.1 1603 rfl) (eE482.1 1606 rfl) ⟨eE482.2.1 56 rfl, eE482.2.1 57 rfl⟩
                        obtain ⟨zs483, ezs483⟩ : ∃ z : Int32, z = f479 1637 := ⟨_, rfl⟩
                        have hzzs483 : zs483.toInt = ((sk468 + 1 : Nat) : Int) := by rw [ezs483]; exact hw476.2.2.2.2.2.1
                        have hj484 := rn_jn (rn_cg hrk315 (fun p h5 h6 => (hw476.2.2.2.2.2.2.2 p (by have w1 := hrk468.1; omega)).trans (hqk468 p h6))) (rn_cg hrk468 (fun p h5 h6 => hw476.2.2.2.2.2.2.2 p (by omega))) (n := opC (T (ik315))) (by rw [hw476.2.2.2.2.2.2.1, (hw323.2.symm.trans c327)]; decide +kernel) (opC_b _).1 (opC_b _).2 (by omega)
                        refine lv_pop hx hb dX4_readPlain_203 rfl ?_
                        refine lv_aload_n hx hb dX4_readPlain_204 rfl (lv_at hl 2 rfl) ?_
                        refine lv_iload_n hx hb dX4_readPlain_205 rfl (lv_at hl 1 rfl) ?_
                        refine lv_if_eq (tgt := 213) hx hb dX4_readPlain_206 (by decide) (fun c485 => ?_) (fun c485 => ?_)
                        · have b486 : kb 0 y4 0 := kb_eq c485 kc_0
                          refine lv_iconst (v := (-1)) hx hb dX4_readPlain_213 (by decide) ?_
                          refine kVG.callW (As := [.int (-1)]) (rest := []) ⟨hx, hb, hml, hown, hg⟩ (y_emitIfAny l r f479 a480 g481 tx tt hT hI hG (-1) (kb_w kc_m1 (by decide) (by decide)) (sk468 + 1) (by show (f479 1637).toInt = ((sk468 + 1 : Nat) : Int); rw [ezs483.symm]; exact hzzs483) (Or.inl rfl)) (cwV 1 hg (kgV wt4_26 wt4_28 wp2_1 wt1_7 wt4_29) rfl rfl rfl (by decide +kernel) ⟨by dsimp only [rmD]; omega, by dsimp only [rmD]; omega⟩) hV hK hP hD hS hA (50) 4 rfl rfl rfl hl.1 rfl (Nat.le_of_ble_eq_true rfl) dX4_readPlain_214 ⟨Nat.le_refl _, Nat.le_refl _⟩ (fun u489 H locs hw487 hP hD hS => ?_)
                          obtain ⟨f490, a491, g492⟩ := u489
                          have hP : va_P D vwCl (xX K r f490 a491 g492 tx) H := hP
                          have hD : va_D A (xX K r f490 a491 g492 tx) := hD
                          have hI : xI f490 a491 := hw487.1
                          have hG : gOK K g492.2 tt := hw487.2.1
                          have eE493 : xEk ([1637], [55], []) f479 a480 g481 f490 a491 g492 := hw487.2.2.1
                          have hE : xEk ([1604, 1605, 1637], [55], []) f a g f490 a491 g492 := xEk_tr hE (xEk_w (by decide +kernel) eE493)
                          have hk0 : xQ f490 a491 N ob T pl := xQ_c hk0 (eE493.1 1603 rfl) (eE493.1 1606 rfl) ⟨eE493.2.1 56 rfl, eE493.2.1 57 rfl⟩
                          obtain ⟨sk494, hzk494, hemk494⟩ := hw487.2.2.2
                          obtain ⟨zs495, ezs495⟩ : ∃ z : Int32, z = f490 1637 := ⟨_, rfl⟩
                          have hzzs495 : zs495.toInt = ((sk494 : Nat) : Int) := by rw [ezs495]; exact hzk494
                          refine lv_iconst (v := 1) hx hb dX4_readPlain_217 (by decide) ?_
                          exact kI_ret (v := 1) hx hb hr hlocks (by decide +kernel) hK hS dX4_readPlain_218 (f490, a491, g492) hP hD ⟨(kb_w kc_1 (by decide) (by decide)), hI, hG, hE, ⟨ik468, nk468, (by show (f490 1604).toInt = ((ik468 : Nat) : Int); rw [((eE493.1 1604 rfl).trans ((eE482.1 1604 rfl).trans egv469.symm))]; exact hg470), (Nat.le_trans (Nat.le_succ_of_le (Nat.le_trans (Nat.le_trans (Nat.le_add_right _ _) hvlp6_1.1) hlek315)) hlek468), hNk468, Or.inl ⟨rfl, ⟨(by show (f490 1605).toInt = ((nk468 : Nat) : Int); rw [((eE493.1 1605 rfl).trans ((eE482.1 1605 rfl).trans ez472.symm))]; exact hzz472), h3k468.2⟩, (by omega), xc _ (pi_5n hn8 (pi_10c (fun q => c307 (hw303.2.trans q)) hGk315 (Or.inl (hw323.2.symm.trans c327)) hGk468)), (pl_n hemk494 (by show (f490 1637).toInt = ((sk494 : Nat) : Int); rw [ezs495.symm]; exact hzzs495) hj484 (by have w1 := hlk315; have w2 := hlk468; omega) (fun p hp => (hw476.2.2.2.2.2.2.2 p (by have w1 := hrk315.1; have w2 := hrk468.1; omega)).trans ((hqk468 p (by have w1 := hrk315.1; omega)).trans (hqk315 p hp))) (by have w1 := xv _ _ (ei_5n hn8 (ei_10c (fun q => c307 (hw303.2.trans q)) hek315 (Or.inl (hw323.2.symm.trans c327)) hek468)); rw [if_neg (by rw [c485]; decide)] at w1; exact w1) (Nat.le_trans (Nat.le_add_right _ _) hvlp6_1.1))⟩⟩⟩
                        · have b496 : kb 1 y4 1 := kr_nel c485 b9 kc_0 (by decide)
                          refine lv_iconst (v := 2) hx hb dX4_readPlain_209 (by decide) ?_
                          refine lv_goto (tgt := 214) hx hb dX4_readPlain_210 (by decide) ?_
                          refine kVG.callW (As := [.int 2]) (rest := []) ⟨hx, hb, hml, hown, hg⟩ (y_emitIfAny l r f479 a480 g481 tx tt hT hI hG 2 (kb_w kc_2 (by decide) (by decide)) (sk468 + 1) (by show (f479 1637).toInt = ((sk468 + 1 : Nat) : Int); rw [ezs483.symm]; exact hzzs483) (Or.inr (by have w1 := htl.resolve_left (fun q => by have w2 := (b496).1; rw [q] at w2; exact absurd w2 (by decide +kernel)); omega))) (cwV 1 hg (kgV wt4_26 wt4_28 wp2_1 wt1_7 wt4_29) rfl rfl rfl (by decide +kernel) ⟨by dsimp only [rmD]; omega, by dsimp only [rmD]; omega⟩) hV hK hP hD hS hA (50) 4 rfl rfl rfl hl.1 rfl (Nat.le_of_ble_eq_true rfl) dX4_readPlain_214 ⟨Nat.le_refl _, Nat.le_refl _⟩ (fun u499 H locs hw497 hP hD hS => ?_)
                          obtain ⟨f500, a501, g502⟩ := u499
                          have hP : va_P D vwCl (xX K r f500 a501 g502 tx) H := hP
                          have hD : va_D A (xX K r f500 a501 g502 tx) := hD
                          have hI : xI f500 a501 := hw497.1
                          have hG : gOK K g502.2 tt := hw497.2.1
                          have eE503 : xEk ([1637], [55], []) f479 a480 g481 f500 a501 g502 := hw497.2.2.1
                          have hE : xEk ([1604, 1605, 1637], [55], []) f a g f500 a501 g502 := xEk_tr hE (xEk_w (by decide +kernel) eE503)
                          have hk0 : xQ f500 a501 N ob T pl := xQ_c hk0 (eE503.1 1603 rfl) (eE503.1 1606 rfl) ⟨eE503.2.1 56 rfl, eE503.2.1 57 rfl⟩
                          obtain ⟨sk504, hzk504, hemk504⟩ := hw497.2.2.2
                          obtain ⟨zs505, ezs505⟩ : ∃ z : Int32, z = f500 1637 := ⟨_, rfl⟩
                          have hzzs505 : zs505.toInt = ((sk504 : Nat) : Int) := by rw [ezs505]; exact hzk504
                          refine lv_iconst (v := 1) hx hb dX4_readPlain_217 (by decide) ?_
                          exact kI_ret (v := 1) hx hb hr hlocks (by decide +kernel) hK hS dX4_readPlain_218 (f500, a501, g502) hP hD ⟨(kb_w kc_1 (by decide) (by decide)), hI, hG, hE, ⟨ik468, nk468, (by show (f500 1604).toInt = ((ik468 : Nat) : Int); rw [((eE503.1 1604 rfl).trans ((eE482.1 1604 rfl).trans egv469.symm))]; exact hg470), (Nat.le_trans (Nat.le_succ_of_le (Nat.le_trans (Nat.le_trans (Nat.le_add_right _ _) hvlp6_1.1) hlek315)) hlek468), hNk468, Or.inl ⟨rfl, ⟨(by show (f500 1605).toInt = ((nk468 : Nat) : Int); rw [((eE503.1 1605 rfl).trans ((eE482.1 1605 rfl).trans ez472.symm))]; exact hzz472), h3k468.2⟩, (by omega), xc _ (pi_5n hn8 (pi_10c (fun q => c307 (hw303.2.trans q)) hGk315 (Or.inl (hw323.2.symm.trans c327)) hGk468)), (pl_y hemk504 (by show (f500 1637).toInt = ((sk504 : Nat) : Int); rw [ezs505.symm]; exact hzzs505) hj484 (pl_l (by have w1 := hlk315; have w2 := hlk468; omega) (htl.resolve_left (fun q => by have w2 := (b496).1; rw [q] at w2; exact absurd w2 (by decide +kernel)))) (fun p hp => (hw476.2.2.2.2.2.2.2 p (by have w1 := hrk315.1; have w2 := hrk468.1; omega)).trans ((hqk468 p (by have w1 := hrk315.1; omega)).trans (hqk315 p hp))) (by have w1 := xv _ _ (ei_5n hn8 (ei_10c (fun q => c307 (hw303.2.trans q)) hek315 (Or.inl (hw323.2.symm.trans c327)) hek468)); rw [if_pos (kb_11 b496)] at w1; exact w1))⟩⟩⟩
                      · exact kb_dj c475 kc_1 kc_0 (by decide)
                    · refine k_top (z := 0) hvk468 ?_
                      obtain ⟨gv506, egv506⟩ : ∃ z : Int32, z = f464 1604 := ⟨_, rfl⟩
                      have hg507 : gv506.toInt = ((ik468 : Nat) : Int) := by rw [egv506]; exact hgk468
                      have b508 : kb 0 gv506 400 := kb_pos hNk468 hN4 hg507
                      refine lv_if_ne (tgt := 194) hx hb dX4_readPlain_189 (by decide) (fun c509 => ?_) (fun c509 => ?_)
                      · exact kb_nsame c509 kc_0 kc_0
                      · refine lv_iconst (v := 0) hx hb dX4_readPlain_192 (by decide) ?_
                        exact kI_ret (v := 0) hx hb hr hlocks (by decide +kernel) hK hS dX4_readPlain_193 (f464, a465, g466) hP hD ⟨(kb_w kc_0 (by decide) (by decide)), hI, hG, hE, ⟨ik468, 0, (by show (f464 1604).toInt = ((ik468 : Nat) : Int); rw [egv506.symm]; exact hg507), (Nat.le_trans (Nat.le_succ_of_le (Nat.le_trans (Nat.le_trans (Nat.le_add_right _ _) hvlp6_1.1) hlek315)) hlek468), hNk468, Or.inr ⟨rfl, xc _ (pi_5n hn8 (pi_10c (fun q => c307 (hw303.2.trans q)) hGk315 (Or.inl (hw323.2.symm.trans c327)) hGk468))⟩⟩⟩
                  · exact kb_dj c454 kc_10 kc_m1 (by decide)
              · exact kb_dj c322 kc_1 kc_0 (by decide)
            · refine k_top (z := 0) hvk315 ?_
              obtain ⟨gv510, egv510⟩ : ∃ z : Int32, z = f311 1604 := ⟨_, rfl⟩
              have hg511 : gv510.toInt = ((ik315 : Nat) : Int) := by rw [egv510]; exact hgk315
              have b512 : kb 0 gv510 400 := kb_pos hNk315 hN4 hg511
              refine lv_if_ne (tgt := 120) hx hb dX4_readPlain_115 (by decide) (fun c513 => ?_) (fun c513 => ?_)
              · exact kb_nsame c513 kc_0 kc_0
              · refine lv_iconst (v := 0) hx hb dX4_readPlain_118 (by decide) ?_
                exact kI_ret (v := 0) hx hb hr hlocks (by decide +kernel) hK hS dX4_readPlain_119 (f311, a312, g313) hP hD ⟨(kb_w kc_0 (by decide) (by decide)), hI, hG, hE, ⟨ik315, 0, (by show (f311 1604).toInt = ((ik315 : Nat) : Int); rw [egv510.symm]; exact hg511), (Nat.le_trans (Nat.le_trans (Nat.le_add_right _ _) hvlp6_1.1) hlek315), hNk315, Or.inr ⟨rfl, xc _ (pi_5n hn8 (pi_10g (fun q => c307 (hw303.2.trans q)) hGk315))⟩⟩⟩
          · have b514 : kb 3040 v304 3040 := kb_eq c307 kc_3040
            refine lv_iload_n hx hb dX4_readPlain_57 rfl (lv_at hl 3 rfl) ?_
            refine lv_bipush (v := 8) hx hb dX4_readPlain_58 (by decide) ?_
            refine lv_icmp_lt (tgt := 65) hx hb dX4_readPlain_60 (by decide) (fun c515 => ?_) (fun c515 => ?_)
            · have h516 := (kc_lt c515)
              have b517 : kb 0 dp 7 := kr_lt1 h516 bdp kc_8 (by decide)
              refine lv_aload_n hx hb dX4_readPlain_65 rfl (lv_at hl 2 rfl) ?_
              refine lv_dup hx hb dX4_readPlain_66 rfl ?_
              have hlt518 : i5 < N := xQ_lt hk0 (ne_4000 (hw303.2.symm.trans c307) (by decide +kernel))
              have b519 : kb 0 gv10 399 := kb_pos1 hlt518 hN4 hg11
              refine va_get (D := D) (ci := 4) (v := .int (F5 1604)) (C := RX4) (T := TX4) (N := 7) hx hb hg inC4 hown hK hP 50 rfl rfl 4 (by decide) (hg _ wt2_69) (fun _ h9 => h9) rfl dX4_readPlain_67 ?_
              refine k_top (z := gv10) egv10.symm ?_
              refine lv_iconst (v := 1) hx hb dX4_readPlain_70 (by decide) ?_
              refine lv_iadd hx hb dX4_readPlain_71 ?_
              refine lv_topi (fun t520 et520 => ?_)
              have b521 : kb 1 t520 400 := kb_eq et520 (kb_add b519 kc_1 (by decide) (by decide))
              have qt520 : t520.toInt = gv10.toInt + 1 := by rw [et520]; exact kt_addc b519 kc_1 (by decide) (by decide)
              have hg522 : t520.toInt = ((i5 + 1 : Nat) : Int) := by rw [qt520, hg11]; omega
              refine va_put (D := D) (ci := 4) (v := .int t520) (ty := .int) (C := RX4) (T := TX4) (N := 7) hx hb hg inC4 tyX4 tyX4_ok nmX4 hown hK hP hD hS 50 rfl rfl 4 (by decide) (hg _ wt2_69) (fun _ h9 => h9) rfl (by decide +kernel) rfl rfl (Nat.le_of_ble_eq_true rfl) dX4_readPlain_72 (fun H locs hP hD hS => ?_)
              have hP : va_P D vwCl (xX K r (upd F5 1604 t520) a g tx) H := hP
              have hD : va_D A (xX K r (upd F5 1604 t520) a g tx) := hD
              refine k_gen (P := fun z => va_P D vwCl (xX K r z a g tx) H ∧ va_D A (xX K r z a g tx) ∧ (xI z a) ∧ (gOK K g.2 tt) ∧ (xEk ([1604, 1605, 1637], [55], []) f a g z a g) ∧ (xQ z a N ob T pl)) (upd F5 1604 t520) ⟨hP, hD, (xI_f hI (fI_st hI.1 1604 (kb_any _) (by decide) (by decide))), hG, (xEk_f hE rfl), (xQ_f hk0 (by decide) (by decide))⟩ (fun f_523 ef_523 hq => ?_)
              obtain ⟨hP, hD, hI, hG, hE, hk0⟩ := hq
              obtain ⟨ee, hd⟩ : ∃ ee, d = ee + 1 := ⟨d - 1, by have w1 := hp5; have w2 := (b517).2; omega⟩
              refine lv_aload_n hx hb dX4_readPlain_75 rfl (lv_at hl 2 rfl) ?_
              refine lv_iload_n hx hb dX4_readPlain_76 rfl (lv_at hl 3 rfl) ?_
              refine lv_iconst (v := 1) hx hb dX4_readPlain_77 (by decide) ?_
              refine lv_iadd hx hb dX4_readPlain_78 ?_
              refine lv_topi (fun t524 et524 => ?_)
              have b525 : kb 1 t524 8 := kb_eq et524 (kb_add b517 kc_1 (by decide) (by decide))
              have qt524 : t524.toInt = dp.toInt + 1 := by rw [et524]; exact kt_addc b517 kc_1 (by decide) (by decide)
              refine kIG.callW (As := [.int t524]) (rest := []) ⟨hx, hb, hml, hown, hg⟩ ((ih ee hd) l r f_523 a g tx tt hT hI hG t524 (kb_w b525 (by decide) (by decide)) N (i5 + 1) (n5) (s0) ob T pl hk0 (by rw [(show f_523 1604 = t520 from by rw [← ef_523]; rfl)]; exact hg522) hlt518 ⟨(by rw [((show f_523 1605 = F5 1605 from by rw [← ef_523]; rfl).trans ez13.symm)]; exact hzz13), hvlp6_2.2⟩ ⟨(by show (f_523 1637).toInt = ((s0 : Nat) : Int); rw [((show f_523 1637 = F5 1637 from by rw [← ef_523]; rfl).trans ezs15.symm)]; exact hzzs15), (by omega)⟩ (by have w1 := hp5; have w2 := qt524; omega)) (cwV 1 hg (kgV wt4_50 wt4_52 wp2_5 wt1_7 wt4_53) rfl rfl rfl (by decide +kernel) ⟨by dsimp only [rmD]; omega, by dsimp only [rmD]; omega⟩) hV hK hP hD hS hA (50) 4 rfl rfl rfl hl.1 rfl (Nat.le_of_ble_eq_true rfl) dX4_readPlain_79 ⟨Nat.le_refl _, Nat.le_refl _⟩ (fun v527 u528 H locs hw526 hP hD hS => ?_)
              obtain ⟨f529, a530, g531⟩ := u528
              have hP : va_P D vwCl (xX K r f529 a530 g531 tx) H := hP
              have hD : va_D A (xX K r f529 a530 g531 tx) := hD
              have hI : xI f529 a530 := hw526.2.1
              have hG : gOK K g531.2 tt := hw526.2.2.1
              have eE532 : xEk ([1604, 1605, 1637], [55], []) f_523 a g f529 a530 g531 := hw526.2.2.2.1
              have hE : xEk ([1604, 1605, 1637], [55], []) f a g f529 a530 g531 := xEk_tr hE eE532
              have hk0 : xQ f529 a530 N ob T pl := xQ_c hk0 (eE532.1 1603 rfl) (eE532.1 1606 rfl) ⟨eE532.2.1 56 rfl, eE532.2.1 57 rfl⟩
              obtain ⟨ik533, nk533, hgk533, hlek533, hNk533, hck533⟩ := hw526.2.2.2.2
              rcases hck533 with ⟨hvk533, h3k533, hltk533, hGk533, hcdk533⟩ | ⟨hvk533, hGk533⟩
              · refine k_top (z := 1) hvk533 ?_
                obtain ⟨gv534, egv534⟩ : ∃ z : Int32, z = f529 1604 := ⟨_, rfl⟩
                have hg535 : gv534.toInt = ((ik533 : Nat) : Int) := by rw [egv534]; exact hgk533
                have b536 : kb 0 gv534 400 := kb_pos hNk533 hN4 hg535
                obtain ⟨z537, ez537⟩ : ∃ z : Int32, z = f529 1605 := ⟨_, rfl⟩
                have hzz537 : z537.toInt = ((nk533 : Nat) : Int) := by rw [ez537]; exact h3k533.1
                have b538 : kb 0 z537 50 := ⟨by omega, by have w1 := h3k533.2; omega⟩
                obtain ⟨sk533, wk533, hzk533, hlk533, hqk533, hek533, hrk533⟩ := hcdk533
                obtain ⟨zs539, ezs539⟩ : ∃ z : Int32, z = f529 1637 := ⟨_, rfl⟩
                have hzzs539 : zs539.toInt = ((sk533 : Nat) : Int) := by rw [ezs539]; exact hzk533
                refine lv_if_eq (tgt := 95) hx hb dX4_readPlain_82 (by decide) (fun c540 => ?_) (fun c540 => ?_)
                · exact kb_dj c540 kc_1 kc_0 (by decide)
                · refine lv_aload_n hx hb dX4_readPlain_85 rfl (lv_at hl 2 rfl) ?_
                  refine kIG.callW (As := []) (rest := []) ⟨hx, hb, hml, hown, hg⟩ (y_inHand l r f529 a530 g531 tx tt hT hI hG   N (ik533) ob T pl hk0 (by rw [egv534.symm]; exact hg535) hNk533) (cwV 0 hg (kgV wt3_238 wt4_0 wp1_12 wt1_7 wt4_1) rfl rfl rfl (by decide +kernel) ⟨by dsimp only [rmD]; omega, by dsimp only [rmD]; omega⟩) hV hK hP hD hS hA (50) 4 rfl rfl rfl hl.1 rfl (Nat.le_of_ble_eq_true rfl) dX4_readPlain_86 ⟨Nat.le_refl _, Nat.le_refl _⟩ (fun v542 u543 H locs hw541 hP hD hS => ?_)
                  have hP : va_P D vwCl (xX K r f529 a530 g531 tx) H := hP
                  have hD : va_D A (xX K r f529 a530 g531 tx) := hD
                  have b544 : kb 0 v542 4000 := kb_eq hw541.2 (hk0.2.2.2.2.2.2 (ik533))
                  refine lv_sipush (v := 3041) hx hb dX4_readPlain_89 (by decide) ?_
                  refine lv_icmp_eq (tgt := 97) hx hb dX4_readPlain_92 (by decide) (fun c545 => ?_) (fun c545 => ?_)
                  · have b546 : kb 3041 v542 3041 := kb_eq c545 kc_3041
                    refine lv_aload_n hx hb dX4_readPlain_97 rfl (lv_at hl 2 rfl) ?_
                    refine lv_dup hx hb dX4_readPlain_98 rfl ?_
                    have hlt547 : ik533 < N := xQ_lt hk0 (ne_4000 (hw541.2.symm.trans c545) (by decide +kernel))
                    have b548 : kb 0 gv534 399 := kb_pos1 hlt547 hN4 hg535
                    refine va_get (D := D) (ci := 4) (v := .int (f529 1604)) (C := RX4) (T := TX4) (N := 7) hx hb hg inC4 hown hK hP 50 rfl rfl 4 (by decide) (hg _ wt2_69) (fun _ h9 => h9) rfl dX4_readPlain_99 ?_
                    refine k_top (z := gv534) egv534.symm ?_
                    refine lv_iconst (v := 1) hx hb dX4_readPlain_102 (by decide) ?_
                    refine lv_iadd hx hb dX4_readPlain_103 ?_
                    refine lv_topi (fun t549 et549 => ?_)
                    have b550 : kb 1 t549 400 := kb_eq et549 (kb_add b548 kc_1 (by decide) (by decide))
                    have qt549 : t549.toInt = gv534.toInt + 1 := by rw [et549]; exact kt_addc b548 kc_1 (by decide) (by decide)
                    have hg551 : t549.toInt = ((ik533 + 1 : Nat) : Int) := by rw [qt549, hg535]; omega
                    refine va_put (D := D) (ci := 4) (v := .int t549) (ty := .int) (C := RX4) (T := TX4) (N := 7) hx hb hg inC4 tyX4 tyX4_ok nmX4 hown hK hP hD hS 50 rfl rfl 4 (by decide) (hg _ wt2_69) (fun _ h9 => h9) rfl (by decide +kernel) rfl rfl (Nat.le_of_ble_eq_true rfl) dX4_readPlain_104 (fun H locs hP hD hS => ?_)
                    have hP : va_P D vwCl (xX K r (upd f529 1604 t549) a530 g531 tx) H := hP
                    have hD : va_D A (xX K r (upd f529 1604 t549) a530 g531 tx) := hD
                    refine k_gen (P := fun z => va_P D vwCl (xX K r z a530 g531 tx) H ∧ va_D A (xX K r z a530 g531 tx) ∧ (xI z a530) ∧ (gOK K g531.2 tt) ∧ (xEk ([1604, 1605, 1637], [55], []) f a g z a530 g531) ∧ (xQ z a530 N ob T pl)) (upd f529 1604 t549) ⟨hP, hD, (xI_f hI (fI_st hI.1 1604 (kb_any _) (by decide) (by decide))), hG, (xEk_f hE rfl), (xQ_f hk0 (by decide) (by decide))⟩ (fun f_552 ef_552 hq => ?_)
                    obtain ⟨hP, hD, hI, hG, hE, hk0⟩ := hq
                    refine lv_goto (tgt := 204) hx hb dX4_readPlain_107 (by decide) ?_
                    refine lv_aload_n hx hb dX4_readPlain_204 rfl (lv_at hl 2 rfl) ?_
                    refine lv_iload_n hx hb dX4_readPlain_205 rfl (lv_at hl 1 rfl) ?_
                    refine lv_if_eq (tgt := 213) hx hb dX4_readPlain_206 (by decide) (fun c553 => ?_) (fun c553 => ?_)
                    · have b554 : kb 0 y4 0 := kb_eq c553 kc_0
                      refine lv_iconst (v := (-1)) hx hb dX4_readPlain_213 (by decide) ?_
                      refine kVG.callW (As := [.int (-1)]) (rest := []) ⟨hx, hb, hml, hown, hg⟩ (y_emitIfAny l r f_552 a530 g531 tx tt hT hI hG (-1) (kb_w kc_m1 (by decide) (by decide)) (sk533) (by show (f_552 1637).toInt = ((sk533 : Nat) : Int); rw [((show f_552 1637 = f529 1637 from by rw [← ef_552]; rfl).trans ezs539.symm)]; exact hzzs539) (Or.inl rfl)) (cwV 1 hg (kgV wt4_26 wt4_28 wp2_1 wt1_7 wt4_29) rfl rfl rfl (by decide +kernel) ⟨by dsimp only [rmD]; omega, by dsimp only [rmD]; omega⟩) hV hK hP hD hS hA (50) 4 rfl rfl rfl hl.1 rfl (Nat.le_of_ble_eq_true rfl) dX4_readPlain_214 ⟨Nat.le_refl _, Nat.le_refl _⟩ (fun u557 H locs hw555 hP hD hS => ?_)
                      obtain ⟨f558, a559, g560⟩ := u557
                      have hP : va_P D vwCl (xX K r f558 a559 g560 tx) H := hP
                      have hD : va_D A (xX K r f558 a559 g560 tx) := hD
                      have hI : xI f558 a559 := hw555.1
                      have hG : gOK K g560.2 tt := hw555.2.1
                      have eE561 : xEk ([1637], [55], []) f_552 a530 g531 f558 a559 g560 := hw555.2.2.1
                      have hE : xEk ([1604, 1605, 1637], [55], []) f a g f558 a559 g560 := xEk_tr hE (xEk_w (by decide +kernel) eE561)
                      have hk0 : xQ f558 a559 N ob T pl := xQ_c hk0 (eE561.1 1603 rfl) (eE561.1 1606 rfl) ⟨eE561.2.1 56 rfl, eE561.2.1 57 rfl⟩
                      obtain ⟨sk562, hzk562, hemk562⟩ := hw555.2.2.2
                      obtain ⟨zs563, ezs563⟩ : ∃ z : Int32, z = f558 1637 := ⟨_, rfl⟩
                      have hzzs563 : zs563.toInt = ((sk562 : Nat) : Int) := by rw [ezs563]; exact hzk562
                      refine lv_iconst (v := 1) hx hb dX4_readPlain_217 (by decide) ?_
                      exact kI_ret (v := 1) hx hb hr hlocks (by decide +kernel) hK hS dX4_readPlain_218 (f558, a559, g560) hP hD ⟨(kb_w kc_1 (by decide) (by decide)), hI, hG, hE, ⟨ik533 + 1, nk533, (by show (f558 1604).toInt = ((ik533 + 1 : Nat) : Int); rw [((eE561.1 1604 rfl).trans (show f_552 1604 = t549 from by rw [← ef_552]; rfl))]; exact hg551), (Nat.le_succ_of_le (Nat.le_trans (Nat.le_succ_of_le (Nat.le_trans (Nat.le_add_right _ _) hvlp6_1.1)) hlek533)), hlt547, Or.inl ⟨rfl, ⟨(by show (f558 1605).toInt = ((nk533 : Nat) : Int); rw [((eE561.1 1605 rfl).trans ((show f_552 1605 = f529 1605 from by rw [← ef_552]; rfl).trans ez537.symm))]; exact hzz537), h3k533.2⟩, (by omega), xc _ (pi_5n hn8 (pi_10a (hw303.2.symm.trans c307) hd hGk533 (hw541.2.symm.trans c545))), (pl_n hemk562 (by show (f558 1637).toInt = ((sk562 : Nat) : Int); rw [ezs563.symm]; exact hzzs563) (rn_w hrk533 (by omega)) (by have w1 := hlk533; omega) hqk533 (by have w1 := xv _ _ (ei_5n hn8 (ei_10b (hw303.2.symm.trans c307) hd hek533 (hw541.2.symm.trans c545))); rw [if_neg (by rw [c553]; decide)] at w1; exact w1) (Nat.le_trans (Nat.le_add_right _ _) hvlp6_1.1))⟩⟩⟩
                    · have b564 : kb 1 y4 1 := kr_nel c553 b9 kc_0 (by decide)
                      refine lv_iconst (v := 2) hx hb dX4_readPlain_209 (by decide) ?_
                      refine lv_goto (tgt := 214) hx hb dX4_readPlain_210 (by decide) ?_
                      refine kVG.callW (As := [.int 2]) (rest := []) ⟨hx, hb, hml, hown, hg⟩ (y_emitIfAny l r f_552 a530 g531 tx tt hT hI hG 2 (kb_w kc_2 (by decide) (by decide)) (sk533) (by show (f_552 1637).toInt = ((sk533 : Nat) : Int); rw [((show f_552 1637 = f529 1637 from by rw [← ef_552]; rfl).trans ezs539.symm)]; exact hzzs539) (Or.inr (by have w1 := htl.resolve_left (fun q => by have w2 := (b564).1; rw [q] at w2; exact absurd w2 (by decide +kernel)); omega))) (cwV 1 hg (kgV wt4_26 wt4_28 wp2_1 wt1_7 wt4_29) rfl rfl rfl (by decide +kernel) ⟨by dsimp only [rmD]; omega, by dsimp only [rmD]; omega⟩) hV hK hP hD hS hA (50) 4 rfl rfl rfl hl.1 rfl (Nat.le_of_ble_eq_true rfl) dX4_readPlain_214 ⟨Nat.le_refl _, Nat.le_refl _⟩ (fun u567 H locs hw565 hP hD hS => ?_)
                      obtain ⟨f568, a569, g570⟩ := u567
                      have hP : va_P D vwCl (xX K r f568 a569 g570 tx) H := hP
                      have hD : va_D A (xX K r f568 a569 g570 tx) := hD
                      have hI : xI f568 a569 := hw565.1
                      have hG : gOK K g570.2 tt := hw565.2.1
                      have eE571 : xEk ([1637], [55], []) f_552 a530 g531 f568 a569 g570 := hw565.2.2.1
                      have hE : xEk ([1604, 1605, 1637], [55], []) f a g f568 a569 g570 := xEk_tr hE (xEk_w (by decide +kernel) eE571)
                      have hk0 : xQ f568 a569 N ob T pl := xQ_c hk0 (eE571.1 1603 rfl) (eE571.1 1606 rfl) ⟨eE571.2.1 56 rfl, eE571.2.1 57 rfl⟩
                      obtain ⟨sk572, hzk572, hemk572⟩ := hw565.2.2.2
                      obtain ⟨zs573, ezs573⟩ : ∃ z : Int32, z = f568 1637 := ⟨_, rfl⟩
                      have hzzs573 : zs573.toInt = ((sk572 : Nat) : Int) := by rw [ezs573]; exact hzk572
                      refine lv_iconst (v := 1) hx hb dX4_readPlain_217 (by decide) ?_
                      exact kI_ret (v := 1) hx hb hr hlocks (by decide +kernel) hK hS dX4_readPlain_218 (f568, a569, g570) hP hD ⟨(kb_w kc_1 (by decide) (by decide)), hI, hG, hE, ⟨ik533 + 1, nk533, (by show (f568 1604).toInt = ((ik533 + 1 : Nat) : Int); rw [((eE571.1 1604 rfl).trans (show f_552 1604 = t549 from by rw [← ef_552]; rfl))]; exact hg551), (Nat.le_succ_of_le (Nat.le_trans (Nat.le_succ_of_le (Nat.le_trans (Nat.le_add_right _ _) hvlp6_1.1)) hlek533)), hlt547, Or.inl ⟨rfl, ⟨(by show (f568 1605).toInt = ((nk533 : Nat) : Int); rw [((eE571.1 1605 rfl).trans ((show f_552 1605 = f529 1605 from by rw [← ef_552]; rfl).trans ez537.symm))]; exact hzz537), h3k533.2⟩, (by omega), xc _ (pi_5n hn8 (pi_10a (hw303.2.symm.trans c307) hd hGk533 (hw541.2.symm.trans c545))), (pl_y hemk572 (by show (f568 1637).toInt = ((sk572 : Nat) : Int); rw [ezs573.symm]; exact hzzs573) (rn_w hrk533 (by omega)) (pl_l (by have w1 := hlk533; omega) (htl.resolve_left (fun q => by have w2 := (b564).1; rw [q] at w2; exact absurd w2 (by decide +kernel)))) hqk533 (by have w1 := xv _ _ (ei_5n hn8 (ei_10b (hw303.2.symm.trans c307) hd hek533 (hw541.2.symm.trans c545))); rw [if_pos (kb_11 b564)] at w1; exact w1))⟩⟩⟩
                  · refine lv_iconst (v := 0) hx hb dX4_readPlain_95 (by decide) ?_
                    exact kI_ret (v := 0) hx hb hr hlocks (by decide +kernel) hK hS dX4_readPlain_96 (f529, a530, g531) hP hD ⟨(kb_w kc_0 (by decide) (by decide)), hI, hG, hE, ⟨ik533, 0, (by show (f529 1604).toInt = ((ik533 : Nat) : Int); rw [egv534.symm]; exact hg535), (Nat.le_trans (Nat.le_succ_of_le (Nat.le_trans (Nat.le_add_right _ _) hvlp6_1.1)) hlek533), hNk533, Or.inr ⟨rfl, xc _ (pi_5n hn8 (pi_10b (hw303.2.symm.trans c307) hd hGk533 (fun q => c545 (hw541.2.trans q))))⟩⟩⟩
              · refine k_top (z := 0) hvk533 ?_
                obtain ⟨gv574, egv574⟩ : ∃ z : Int32, z = f529 1604 := ⟨_, rfl⟩
                have hg575 : gv574.toInt = ((ik533 : Nat) : Int) := by rw [egv574]; exact hgk533
                have b576 : kb 0 gv574 400 := kb_pos hNk533 hN4 hg575
                refine lv_if_eq (tgt := 95) hx hb dX4_readPlain_82 (by decide) (fun c577 => ?_) (fun c577 => ?_)
                · refine lv_iconst (v := 0) hx hb dX4_readPlain_95 (by decide) ?_
                  exact kI_ret (v := 0) hx hb hr hlocks (by decide +kernel) hK hS dX4_readPlain_96 (f529, a530, g531) hP hD ⟨(kb_w kc_0 (by decide) (by decide)), hI, hG, hE, ⟨ik533, 0, (by show (f529 1604).toInt = ((ik533 : Nat) : Int); rw [egv574.symm]; exact hg575), (Nat.le_trans (Nat.le_succ_of_le (Nat.le_trans (Nat.le_add_right _ _) hvlp6_1.1)) hlek533), hNk533, Or.inr ⟨rfl, xc _ (pi_5n hn8 (pi_10f (hw303.2.symm.trans c307) hd hGk533))⟩⟩⟩
                · exact kb_nsame c577 kc_0 kc_0
            · have h578 := (kc_nlt c515)
              have b579 : kb 8 dp 8 := kr_le2 h578 kc_8 bdp
              refine lv_iconst (v := 0) hx hb dX4_readPlain_63 (by decide) ?_
              exact kI_ret (v := 0) hx hb hr hlocks (by decide +kernel) hK hS dX4_readPlain_64 (F5, a, g) hP hD ⟨(kb_w kc_0 (by decide) (by decide)), hI, hG, hE, ⟨i5, 0, (by show (F5 1604).toInt = ((i5 : Nat) : Int); rw [egv10.symm]; exact hg11), (Nat.le_trans (Nat.le_add_right _ _) hvlp6_1.1), hvlp6_1.2, Or.inr ⟨rfl, xc _ (pi_5n hn8 (pi_10z (hw303.2.symm.trans c307) (by have w1 := hp5; have w2 := (b579).1; omega)))⟩⟩⟩
        · have b580 : kb 2002 v299 2002 := kb_eq c302 kc_2002
          refine lv_aload_n hx hb dX4_readPlain_21 rfl (lv_at hl 2 rfl) ?_
          refine lv_dup hx hb dX4_readPlain_22 rfl ?_
          have hlt581 : i5 < N := xQ_lt hk0 (ne_4000 (hw298.2.symm.trans c302) (by decide +kernel))
          have b582 : kb 0 gv10 399 := kb_pos1 hlt581 hN4 hg11
          refine va_get (D := D) (ci := 4) (v := .int (F5 1604)) (C := RX4) (T := TX4) (N := 7) hx hb hg inC4 hown hK hP 50 rfl rfl 4 (by decide) (hg _ wt2_69) (fun _ h9 => h9) rfl dX4_readPlain_23 ?_
          refine k_top (z := gv10) egv10.symm ?_
          refine lv_iconst (v := 1) hx hb dX4_readPlain_26 (by decide) ?_
          refine lv_iadd hx hb dX4_readPlain_27 ?_
          refine lv_topi (fun t583 et583 => ?_)
          have b584 : kb 1 t583 400 := kb_eq et583 (kb_add b582 kc_1 (by decide) (by decide))
          have qt583 : t583.toInt = gv10.toInt + 1 := by rw [et583]; exact kt_addc b582 kc_1 (by decide) (by decide)
          have hg585 : t583.toInt = ((i5 + 1 : Nat) : Int) := by rw [qt583, hg11]; omega
          refine va_put (D := D) (ci := 4) (v := .int t583) (ty := .int) (C := RX4) (T := TX4) (N := 7) hx hb hg inC4 tyX4 tyX4_ok nmX4 hown hK hP hD hS 50 rfl rfl 4 (by decide) (hg _ wt2_69) (fun _ h9 => h9) rfl (by decide +kernel) rfl rfl (Nat.le_of_ble_eq_true rfl) dX4_readPlain_28 (fun H locs hP hD hS => ?_)
          have hP : va_P D vwCl (xX K r (upd F5 1604 t583) a g tx) H := hP
          have hD : va_D A (xX K r (upd F5 1604 t583) a g tx) := hD
          refine k_gen (P := fun z => va_P D vwCl (xX K r z a g tx) H ∧ va_D A (xX K r z a g tx) ∧ (xI z a) ∧ (gOK K g.2 tt) ∧ (xEk ([1604, 1605, 1637], [55], []) f a g z a g) ∧ (xQ z a N ob T pl)) (upd F5 1604 t583) ⟨hP, hD, (xI_f hI (fI_st hI.1 1604 (kb_any _) (by decide) (by decide))), hG, (xEk_f hE rfl), (xQ_f hk0 (by decide) (by decide))⟩ (fun f_586 ef_586 hq => ?_)
          obtain ⟨hP, hD, hI, hG, hE, hk0⟩ := hq
          refine lv_iload_n hx hb dX4_readPlain_31 rfl (lv_at hl 1 rfl) ?_
          refine lv_if_ne (tgt := 39) hx hb dX4_readPlain_32 (by decide) (fun c587 => ?_) (fun c587 => ?_)
          · have b588 : kb 1 y4 1 := kr_nel c587 b9 kc_0 (by decide)
            refine lv_iconst (v := 0) hx hb dX4_readPlain_39 (by decide) ?_
            refine lv_istore_n (lv' := [(2, .int 0), (3, .int y3), (0, .ref (r 50)), (1, .int dp)]) hx hb dX4_readPlain_40 rfl hl (by decide) rfl (fun ls hl => ?_)
            obtain ⟨t589, et589⟩ : ∃ z : Int32, z = y3 + Int32.ofInt 1 := ⟨_, rfl⟩
            have qt589 : t589.toInt = y3.toInt + 1 := by rw [et589]; exact km_inc b297 (by decide) (by decide)
            have b590 : kb 1 t589 400 := kb_inc (k := 1) qt589 b297
            refine lv_iinc (v := t589) (lv' := [(3, .int t589), (2, .int 0), (0, .ref (r 50)), (1, .int dp)]) hx hb dX4_readPlain_41 hl (k := 1) rfl et589.symm (by decide) rfl (fun ls hl => ?_)
            refine lv_goto (tgt := 4) hx hb dX4_readPlain_44 (by decide) ?_
            exact ihlp6 (i5 + 1) (n5) (ko + 1) f_586 _ _ _ t589 0 (km_up hmlp6 qt589) hI hG hE hk0 (kb_w b590 (by decide) (by decide)) (kb_w kc_0 (by decide) (by decide)) (by rw [(show f_586 1604 = t583 from by rw [← ef_586]; rfl)]; exact hg585) (⟨by have w1 := hvlp6_1.1; omega, hlt581⟩) (⟨(by rw [((show f_586 1605 = F5 1605 from by rw [← ef_586]; rfl).trans ez13.symm)]; exact hzz13), hvlp6_2.2⟩) (fun r h => xc r (pi_5y (hw298.2.symm.trans c302) h)) (by have w1 := hvlp6_4; omega) (by show (f_586 1637).toInt = ((s0 : Nat) : Int); rw [((show f_586 1637 = F5 1637 from by rw [← ef_586]; rfl).trans ezs15.symm)]; exact hzzs15) (fun j v h => by rw [if_neg (by decide)]; have w1 := xv j (ntO v) (ei_5y (hw298.2.symm.trans c302) h); rw [if_pos (kb_11 b588), nt_nt] at w1; exact w1) (Or.inr (by have w1 := hvlp6_1.1; omega)) hP hD hS (lv_sub hl [0, 1, 2, 3] rfl)
          · have b591 : kb 0 y4 0 := kb_eq c587 kc_0
            refine lv_iconst (v := 1) hx hb dX4_readPlain_35 (by decide) ?_
            refine lv_goto (tgt := 40) hx hb dX4_readPlain_36 (by decide) ?_
            refine lv_istore_n (lv' := [(2, .int 1), (3, .int y3), (0, .ref (r 50)), (1, .int dp)]) hx hb dX4_readPlain_40 rfl hl (by decide) rfl (fun ls hl => ?_)
            obtain ⟨t592, et592⟩ : ∃ z : Int32, z = y3 + Int32.ofInt 1 := ⟨_, rfl⟩
            have qt592 : t592.toInt = y3.toInt + 1 := by rw [et592]; exact km_inc b297 (by decide) (by decide)
            have b593 : kb 1 t592 400 := kb_inc (k := 1) qt592 b297
            refine lv_iinc (v := t592) (lv' := [(3, .int t592), (2, .int 1), (0, .ref (r 50)), (1, .int dp)]) hx hb dX4_readPlain_41 hl (k := 1) rfl et592.symm (by decide) rfl (fun ls hl => ?_)
            refine lv_goto (tgt := 4) hx hb dX4_readPlain_44 (by decide) ?_
            exact ihlp6 (i5 + 1) (n5) (ko + 1) f_586 _ _ _ t592 1 (km_up hmlp6 qt592) hI hG hE hk0 (kb_w b593 (by decide) (by decide)) (kb_w kc_1 (by decide) (by decide)) (by rw [(show f_586 1604 = t583 from by rw [← ef_586]; rfl)]; exact hg585) (⟨by have w1 := hvlp6_1.1; omega, hlt581⟩) (⟨(by rw [((show f_586 1605 = F5 1605 from by rw [← ef_586]; rfl).trans ez13.symm)]; exact hzz13), hvlp6_2.2⟩) (fun r h => xc r (pi_5y (hw298.2.symm.trans c302) h)) (by have w1 := hvlp6_4; omega) (by show (f_586 1637).toInt = ((s0 : Nat) : Int); rw [((show f_586 1637 = F5 1637 from by rw [← ef_586]; rfl).trans ezs15.symm)]; exact hzzs15) (fun j v h => by rw [if_pos rfl]; have w1 := xv j (ntO v) (ei_5y (hw298.2.symm.trans c302) h); rw [if_neg (by rw [c587]; decide)] at w1; exact w1) (Or.inr (by have w1 := hvlp6_1.1; omega)) hP hD hS (lv_sub hl [0, 1, 2, 3] rfl)
  exact lp6 (401) (i) (n) 0 f _ _ _ 0 0 (by have h1 := (kc_0); unfold kb at h1; omega) hI hG hE hk0 (kb_w kc_0 (by decide) (by decide)) (kb_w kc_0 (by decide) (by decide)) (by rw [ecz4.symm]; exact hg0) (⟨by omega, hp2⟩) (⟨(by rw [ecz5.symm]; exact hn5), hl5⟩) (fun r h => h) (by decide +kernel) (by show (f 1637).toInt = ((s0 : Nat) : Int); rw [ecs.symm]; exact hcs) (fun j v h => by rw [if_neg (by decide)]; exact h) (Or.inl rfl) hP hD hS (lv_sub hl [0, 1, 2, 3] rfl)
set_option maxHeartbeats 4000000 in
theorem y_allSum : ∀ d, eXSum d := by
  intro d
  induction d with
  | zero => exact y_readSum 0 (y_readOperand 0 (fun e h => absurd h (by omega)))
  | succ d ih => exact y_readSum _ (y_readOperand _ (fun e h => (Nat.succ.inj h) ▸ ih))
set_option maxHeartbeats 4000000 in
theorem y_allTest : ∀ d, eXTest d := by
  intro d
  induction d with
  | zero => exact y_readTest 0 (y_readPlain 0 (fun e h => absurd h (by omega)) (y_allSum 0))
  | succ d ih => exact y_readTest _ (y_readPlain _ (fun e h => (Nat.succ.inj h) ▸ ih) (y_allSum _))
set_option maxHeartbeats 4000000 in
set_option maxRecDepth 100000 in
theorem y_readTimes  (l : Launch) {D : va_G} {K : Nat → ClassId} (r : Nat → Nat) (f : Nat → Int32) (a : Nat → Nat → Int32) (g : xG) (tx tt : va_W) (hT : ∀ c ∈ tt, c ∈ tx) (hI : xI f a) (hG : gOK K g.2 tt)   (N i cn : Nat) (ob : Bool) (T pl : Nat → Int32) (hp0 : xQ f a N ob T pl) (hp1 : (f 1604).toInt = (i : Int)) (hp2 : i ≤ N) (hp3 : (f 1632).toInt = (cn : Int)) (hp4 : 1 ≤ cn ∧ cn ≤ 12) (hp5 : a 53 (cn - 1) = 1) : kIG l yX4_readTimes (Cond.code yX4_readTimes cX4_readTimes 2 (some .boolean) :: kG) (rmD 2 0 0) D K [.ref (r 50)] (xX K r f a g tx) (fun v (u : xS) => kb 0 v 1 ∧ xI u.1 u.2.1 ∧ gOK K u.2.2.2 tt ∧ xEk ([1604], [53], []) f a g u.1 u.2.1 u.2.2 ∧ (∃ i2 : Nat, (u.1 1604).toInt = (i2 : Int) ∧ i ≤ i2 ∧ i2 ≤ N ∧ ((v = 1 ∧ (∀ n r, pG ob T 8 12 i2 n r → pG ob T 8 14 i n r) ∧ (∃ tm, tmE T i i2 tm ∧ u.2.1 53 (cn - 1) = tm) ∧ ∀ p, ¬ p = cn - 1 → u.2.1 53 p = a 53 p) ∨ (v = 0 ∧ ∀ n, pG ob T 8 14 i n (false, i2, 0))))) (fun u => xX K r u.1 u.2.1 u.2.2 tx) 0 0 := by
  refine kIE.of (cc := cX4_readTimes) (maxL := 2) (ret := (some .boolean)) (by decide) rfl (Nat.le_of_ble_eq_true rfl) ?_
  intro p e s m below meth c A hx hb hr hml hown hts hlocks hnm hK hP hD hS hA hV ls hl
  have hE : xEk ([1604], [53], []) f a g f a g := xEk_rf
  have hg : ∀ w ∈ kG, w.before _ s = true := fun w h => hts w (List.mem_cons_of_mem _ h)
  have hown : s.vm.findClass RX4 = some m.cls := hown
  have hl : lv_has ls 2 [(0, .ref (r 50))] := hl
  have hk0 := hp0
  have hN4 := hp0.2.1
  obtain ⟨cz4, ecz4⟩ : ∃ z : Int32, z = f 1604 := ⟨_, rfl⟩
  have hg0 : cz4.toInt = (i : Int) := by rw [ecz4]; exact hp1
  have b1 : kb 0 cz4 400 := kb_pos hp2 hN4 hg0
  obtain ⟨cC, ecC⟩ : ∃ z : Int32, z = f 1632 := ⟨_, rfl⟩
  have hcC : cC.toInt = (cn : Int) := by rw [ecC]; exact hp3
  refine lv_aload_n hx hb dX4_readTimes_0 rfl (lv_at hl 0 rfl) ?_
  refine kIG.callW (As := []) (rest := []) ⟨hx, hb, hml, hown, hg⟩ (y_inHand l r f a g tx tt hT hI hG   N (i) ob T pl hk0 (by rw [ecz4.symm]; exact hg0) hp2) (cwV 0 hg (kgV wt3_238 wt4_0 wp1_12 wt1_7 wt4_1) rfl rfl rfl (by decide +kernel) ⟨by decide, by decide⟩) hV hK hP hD hS hA (50) 4 rfl rfl rfl hl.1 rfl (Nat.le_of_ble_eq_true rfl) dX4_readTimes_1 ⟨Nat.le_refl _, Nat.le_refl _⟩ (fun v3 u4 H locs hw2 hP hD hS => ?_)
  have hP : va_P D vwCl (xX K r f a g tx) H := hP
  have hD : va_D A (xX K r f a g tx) := hD
  have b5 : kb 0 v3 4000 := kb_eq hw2.2 (hk0.2.2.2.2.2.2 (i))
  refine lv_sipush (v := 2023) hx hb dX4_readTimes_4 (by decide) ?_
  refine lv_icmp_eq (tgt := 12) hx hb dX4_readTimes_7 (by decide) (fun c6 => ?_) (fun c6 => ?_)
  · have b7 : kb 2023 v3 2023 := kb_eq c6 kc_2023
    refine lv_aload_n hx hb dX4_readTimes_12 rfl (lv_at hl 0 rfl) ?_
    refine lv_dup hx hb dX4_readTimes_13 rfl ?_
    have hlt8 : i < N := xQ_lt hk0 (ne_4000 (hw2.2.symm.trans c6) (by decide +kernel))
    have b9 : kb 0 cz4 399 := kb_pos1 hlt8 hN4 hg0
    refine va_get (D := D) (ci := 4) (v := .int (f 1604)) (C := RX4) (T := TX4) (N := 7) hx hb hg inC4 hown hK hP 50 rfl rfl 4 (by decide) (hg _ wt2_69) (fun _ h9 => h9) rfl dX4_readTimes_14 ?_
    refine k_top (z := cz4) ecz4.symm ?_
    refine lv_iconst (v := 1) hx hb dX4_readTimes_17 (by decide) ?_
    refine lv_iadd hx hb dX4_readTimes_18 ?_
    refine lv_topi (fun t10 et10 => ?_)
    have b11 : kb 1 t10 400 := kb_eq et10 (kb_add b9 kc_1 (by decide) (by decide))
    have qt10 : t10.toInt = cz4.toInt + 1 := by rw [et10]; exact kt_addc b9 kc_1 (by decide) (by decide)
    have hg12 : t10.toInt = ((i + 1 : Nat) : Int) := by rw [qt10, hg0]; omega
    refine va_put (D := D) (ci := 4) (v := .int t10) (ty := .int) (C := RX4) (T := TX4) (N := 7) hx hb hg inC4 tyX4 tyX4_ok nmX4 hown hK hP hD hS 50 rfl rfl 4 (by decide) (hg _ wt2_69) (fun _ h9 => h9) rfl (by decide +kernel) rfl rfl (Nat.le_of_ble_eq_true rfl) dX4_readTimes_19 (fun H locs hP hD hS => ?_)
    have hP : va_P D vwCl (xX K r (upd f 1604 t10) a g tx) H := hP
    have hD : va_D A (xX K r (upd f 1604 t10) a g tx) := hD
    refine k_gen (P := fun z => va_P D vwCl (xX K r z a g tx) H ∧ va_D A (xX K r z a g tx) ∧ (xI z a) ∧ (gOK K g.2 tt) ∧ (xEk ([1604], [53], []) f a g z a g) ∧ (xQ z a N ob T pl)) (upd f 1604 t10) ⟨hP, hD, (xI_f hI (fI_st hI.1 1604 (kb_any _) (by decide) (by decide))), hG, (xEk_f hE rfl), (xQ_f hk0 (by decide) (by decide))⟩ (fun f_13 ef_13 hq => ?_)
    obtain ⟨hP, hD, hI, hG, hE, hk0⟩ := hq
    refine lv_aload_n hx hb dX4_readTimes_22 rfl (lv_at hl 0 rfl) ?_
    refine kIG.callW (As := []) (rest := []) ⟨hx, hb, hml, hown, hg⟩ (y_inHand l r f_13 a g tx tt hT hI hG   N (i + 1) ob T pl hk0 (by rw [(show f_13 1604 = t10 from by rw [← ef_13]; rfl)]; exact hg12) hlt8) (cwV 0 hg (kgV wt3_238 wt4_0 wp1_12 wt1_7 wt4_1) rfl rfl rfl (by decide +kernel) ⟨by decide, by decide⟩) hV hK hP hD hS hA (50) 4 rfl rfl rfl hl.1 rfl (Nat.le_of_ble_eq_true rfl) dX4_readTimes_23 ⟨Nat.le_refl _, Nat.le_refl _⟩ (fun v15 u16 H locs hw14 hP hD hS => ?_)
    have hP : va_P D vwCl (xX K r f_13 a g tx) H := hP
    have hD : va_D A (xX K r f_13 a g tx) := hD
    have b17 : kb 0 v15 4000 := kb_eq hw14.2 (hk0.2.2.2.2.2.2 (i + 1))
    refine lv_istore_n (lv' := [(1, .int v15), (0, .ref (r 50))]) hx hb dX4_readTimes_26 rfl hl (by decide) rfl (fun ls hl => ?_)
    refine lv_iload_n hx hb dX4_readTimes_27 rfl (lv_at hl 0 rfl) ?_
    refine lv_iconst (v := 1) hx hb dX4_readTimes_28 (by decide) ?_
    refine lv_icmp_lt (tgt := 38) hx hb dX4_readTimes_29 (by decide) (fun c18 => ?_) (fun c18 => ?_)
    · have h19 := (kc_lt c18)
      have b20 : kb 0 v15 0 := kr_lt1 h19 b17 kc_1 (by decide)
      refine lv_iconst (v := 0) hx hb dX4_readTimes_38 (by decide) ?_
      exact kI_ret (v := 0) hx hb hr hlocks (by decide +kernel) hK hS dX4_readTimes_39 (f_13, a, g) hP hD ⟨(kb_w kc_0 (by decide) (by decide)), hI, hG, hE, ⟨i + 1, (by show (f_13 1604).toInt = ((i + 1 : Nat) : Int); rw [(show f_13 1604 = t10 from by rw [← ef_13]; rfl)]; exact hg12), (Nat.le_succ_of_le (Nat.le_refl i)), hlt8, Or.inr ⟨rfl, fun n => pi_14f (hw2.2.symm.trans c6) (by rw [← hw14.2]; exact pIn_f (fun q => by have w1 := (b20).2; have w2 := q.1; omega))⟩⟩⟩
    · have h21 := (kc_nlt c18)
      have b22 : kb 1 v15 4000 := kr_le2 h21 kc_1 b17
      refine lv_iload_n hx hb dX4_readTimes_32 rfl (lv_at hl 0 rfl) ?_
      refine lv_bipush (v := 20) hx hb dX4_readTimes_33 (by decide) ?_
      refine lv_icmp_le (tgt := 40) hx hb dX4_readTimes_35 (by decide) (fun c23 => ?_) (fun c23 => ?_)
      · have h24 := (kc_le c23)
        have b25 : kb 1 v15 20 := kr_le1 h24 b22 kc_20
        refine lv_aload_n hx hb dX4_readTimes_40 rfl (lv_at hl 1 rfl) ?_
        refine lv_dup hx hb dX4_readTimes_41 rfl ?_
        have hlt26 : i + 1 < N := xQ_lt hk0 (fun q => by have w1 := (b25).2; have w2 := congrArg Int32.toInt ((hw14.2).trans q); have w3 := i4000; omega)
        have b27 : kb 0 t10 399 := kb_pos1 hlt26 hN4 hg12
        refine va_get (D := D) (ci := 4) (v := .int (f_13 1604)) (C := RX4) (T := TX4) (N := 7) hx hb hg inC4 hown hK hP 50 rfl rfl 4 (by decide) (hg _ wt2_69) (fun _ h9 => h9) rfl dX4_readTimes_42 ?_
        refine k_top (z := t10) (show f_13 1604 = t10 from by rw [← ef_13]; rfl) ?_
        refine lv_iconst (v := 1) hx hb dX4_readTimes_45 (by decide) ?_
        refine lv_iadd hx hb dX4_readTimes_46 ?_
        refine lv_topi (fun t28 et28 => ?_)
        have b29 : kb 1 t28 400 := kb_eq et28 (kb_add b27 kc_1 (by decide) (by decide))
        have qt28 : t28.toInt = t10.toInt + 1 := by rw [et28]; exact kt_addc b27 kc_1 (by decide) (by decide)
        have hg30 : t28.toInt = ((i + 1 + 1 : Nat) : Int) := by rw [qt28, hg12]; omega
        refine va_put (D := D) (ci := 4) (v := .int t28) (ty := .int) (C := RX4) (T := TX4) (N := 7) hx hb hg inC4 tyX4 tyX4_ok nmX4 hown hK hP hD hS 50 rfl rfl 4 (by decide) (hg _ wt2_69) (fun _ h9 => h9) rfl (by decide +kernel) rfl rfl (Nat.le_of_ble_eq_true rfl) dX4_readTimes_47 (fun H locs hP hD hS => ?_)
        have hP : va_P D vwCl (xX K r (upd f_13 1604 t28) a g tx) H := hP
        have hD : va_D A (xX K r (upd f_13 1604 t28) a g tx) := hD
        refine k_gen (P := fun z => va_P D vwCl (xX K r z a g tx) H ∧ va_D A (xX K r z a g tx) ∧ (xI z a) ∧ (gOK K g.2 tt) ∧ (xEk ([1604], [53], []) f a g z a g) ∧ (xQ z a N ob T pl)) (upd f_13 1604 t28) ⟨hP, hD, (xI_f hI (fI_st hI.1 1604 (kb_any _) (by decide) (by decide))), hG, (xEk_f hE rfl), (xQ_f hk0 (by decide) (by decide))⟩ (fun f_31 ef_31 hq => ?_)
        obtain ⟨hP, hD, hI, hG, hE, hk0⟩ := hq
        refine lv_aload_n hx hb dX4_readTimes_50 rfl (lv_at hl 1 rfl) ?_
        refine va_get (D := D) (ci := 4) (v := .ref (r 51)) (C := RX4) (T := TX4) (N := 7) hx hb hg inC4 hown hK hP 50 rfl rfl 0 (by decide) (hg _ wt2_64) (fun _ h9 => h9) rfl dX4_readTimes_51 ?_
        refine lv_iload_n hx hb dX4_readTimes_54 rfl (lv_at hl 0 rfl) ?_
        refine kVG.callW (As := [.int v15]) (rest := []) ⟨hx, hb, hml, hown, hg⟩ (y_repeat l r f_31 a g tx tt hT hI hG v15  cn (by rw [((show f_31 1632 = f_13 1632 from by rw [← ef_31]; rfl).trans ((show f_13 1632 = f 1632 from by rw [← ef_13]; rfl).trans ecC.symm))]; exact hcC) hp4) (cwV 1 hg (kgV wt4_38 wt4_39 wt4_40 wt1_8 wt4_41) rfl rfl rfl (by decide +kernel) ⟨by decide, by decide⟩) hV hK hP hD hS hA (51) 10 rfl rfl rfl hl.1 rfl (Nat.le_of_ble_eq_true rfl) dX4_readTimes_55 ⟨Nat.le_refl _, Nat.le_refl _⟩ (fun u34 H locs hw32 hP hD hS => ?_)
        obtain ⟨f35, a36, g37⟩ := u34
        have hP : va_P D vwCl (xX K r f35 a36 g37 tx) H := hP
        have hD : va_D A (xX K r f35 a36 g37 tx) := hD
        have hI : xI f35 a36 := hw32.1
        have hG : gOK K g37.2 tt := hw32.2.1
        have eE38 : xEk ([], [53], []) f_31 a g f35 a36 g37 := hw32.2.2.1
        have hE : xEk ([1604], [53], []) f a g f35 a36 g37 := xEk_tr hE (xEk_w (by decide +kernel) eE38)
        have hk0 : xQ f35 a36 N ob T pl := xQ_c hk0 (eE38.1 1603 rfl) (eE38.1 1606 rfl) ⟨eE38.2.1 56 rfl, eE38.2.1 57 rfl⟩
        refine lv_iconst (v := 1) hx hb dX4_readTimes_58 (by decide) ?_
        exact kI_ret (v := 1) hx hb hr hlocks (by decide +kernel) hK hS dX4_readTimes_59 (f35, a36, g37) hP hD ⟨(kb_w kc_1 (by decide) (by decide)), hI, hG, hE, ⟨i + 1 + 1, (by show (f35 1604).toInt = ((i + 1 + 1 : Nat) : Int); rw [((eE38.1 1604 rfl).trans (show f_31 1604 = t28 from by rw [← ef_31]; rfl))]; exact hg30), (Nat.le_succ_of_le (Nat.le_succ_of_le (Nat.le_refl i))), hlt26, Or.inl ⟨rfl, (fun n r h => pi_14y (hw2.2.symm.trans c6) (by rw [← hw14.2]; exact pIn_t b25) h), ⟨T (i + 1), Or.inl ⟨(hw2.2.symm.trans c6), (by rw [← hw14.2]; exact pIn_t b25), rfl, rfl⟩, hw32.2.2.2.1.trans hw14.2⟩, hw32.2.2.2.2⟩⟩⟩
      · have h39 := (kc_nle c23)
        have b40 : kb 21 v15 4000 := kr_lt2 h39 kc_20 b22 (by decide)
        refine lv_iconst (v := 0) hx hb dX4_readTimes_38 (by decide) ?_
        exact kI_ret (v := 0) hx hb hr hlocks (by decide +kernel) hK hS dX4_readTimes_39 (f_13, a, g) hP hD ⟨(kb_w kc_0 (by decide) (by decide)), hI, hG, hE, ⟨i + 1, (by show (f_13 1604).toInt = ((i + 1 : Nat) : Int); rw [(show f_13 1604 = t10 from by rw [← ef_13]; rfl)]; exact hg12), (Nat.le_succ_of_le (Nat.le_refl i)), hlt8, Or.inr ⟨rfl, fun n => pi_14f (hw2.2.symm.trans c6) (by rw [← hw14.2]; exact pIn_f (fun q => by have w1 := (b40).1; have w2 := q.2; omega))⟩⟩⟩
  · refine lv_iconst (v := 1) hx hb dX4_readTimes_10 (by decide) ?_
    exact kI_ret (v := 1) hx hb hr hlocks (by decide +kernel) hK hS dX4_readTimes_11 (f, a, g) hP hD ⟨(kb_w kc_1 (by decide) (by decide)), hI, hG, hE, ⟨i, (by show (f 1604).toInt = ((i : Nat) : Int); rw [ecz4.symm]; exact hg0), (Nat.le_refl i), hp2, Or.inl ⟨rfl, (fun n r h => pi_14n (fun q => c6 (hw2.2.trans q)) h), ⟨1, Or.inr ⟨(fun q => c6 (hw2.2.trans q)), rfl, rfl⟩, hp5⟩, fun p hp => rfl⟩⟩⟩
set_option maxHeartbeats 4000000 in
set_option maxRecDepth 100000 in
theorem y_readRule  (l : Launch) {D : va_G} {K : Nat → ClassId} (r : Nat → Nat) (f : Nat → Int32) (a : Nat → Nat → Int32) (g : xG) (tx tt : va_W) (hT : ∀ c ∈ tt, c ∈ tx) (hI : xI f a) (hG : gOK K g.2 tt)   (N i n s0 cn : Nat) (ob : Bool) (T pl : Nat → Int32) (hp0 : xQ f a N ob T pl) (hp1 : (f 1604).toInt = (i : Int)) (hp2 : i ≤ N) (hp3 : (f 1605).toInt = (n : Int) ∧ n ≤ 50) (hp4 : (f 1637).toInt = (s0 : Int) ∧ s0 ≤ i) (hp5 : (f 1632).toInt = (cn : Int)) (hp6 : cn < 12) (hp7 : ob = false) : kIG l yX4_readRule (Cond.code yX4_readRule cX4_readRule 2 (some .boolean) :: kG) (rmD 27 0 0) D K [.ref (r 50)] (xX K r f a g tx) (fun v (u : xS) => kb 0 v 1 ∧ xI u.1 u.2.1 ∧ gOK K u.2.2.2 tt ∧ xEk ([1604, 1605, 1632, 1637], [52, 53, 54, 55], []) f a g u.1 u.2.1 u.2.2 ∧ (∃ i2 n2 : Nat, (u.1 1604).toInt = (i2 : Int) ∧ i ≤ i2 ∧ i2 ≤ N ∧ ((v = 1 ∧ ((u.1 1605).toInt = (n2 : Int) ∧ n2 ≤ 50) ∧ (u.1 1632).toInt = ((cn + 1 : Nat) : Int) ∧ (∀ r, pG ob T 8 12 i2 n2 r → pG ob T 8 11 i n r) ∧ hdP ob T i i2 cn s0 a u.2.1 (u.1 1637)) ∨ (v = 0 ∧ pG ob T 8 11 i n (false, i2, 0))))) (fun u => xX K r u.1 u.2.1 u.2.2 tx) 0 0 := by
  refine kIE.of (cc := cX4_readRule) (maxL := 2) (ret := (some .boolean)) (by decide) rfl (Nat.le_of_ble_eq_true rfl) ?_
  intro p e s m below meth c A hx hb hr hml hown hts hlocks hnm hK hP hD hS hA hV ls hl
  have hE : xEk ([1604, 1605, 1632, 1637], [52, 53, 54, 55], []) f a g f a g := xEk_rf
  have hg : ∀ w ∈ kG, w.before _ s = true := fun w h => hts w (List.mem_cons_of_mem _ h)
  have hown : s.vm.findClass RX4 = some m.cls := hown
  have hl : lv_has ls 2 [(0, .ref (r 50))] := hl
  have hk0 := hp0
  have hN4 := hp0.2.1
  obtain ⟨cz4, ecz4⟩ : ∃ z : Int32, z = f 1604 := ⟨_, rfl⟩
  have hg0 : cz4.toInt = (i : Int) := by rw [ecz4]; exact hp1
  have b1 : kb 0 cz4 400 := kb_pos hp2 hN4 hg0
  obtain ⟨cz5, ecz5⟩ : ∃ z : Int32, z = f 1605 := ⟨_, rfl⟩
  have hn5 : cz5.toInt = (n : Int) := by rw [ecz5]; exact hp3.1
  have hl5 := hp3.2
  have b2 : kb 0 cz5 50 := ⟨by omega, by omega⟩
  obtain ⟨cs, ecs⟩ : ∃ z : Int32, z = f 1637 := ⟨_, rfl⟩
  have hcs : cs.toInt = (s0 : Int) := by rw [ecs]; exact hp4.1
  have hsi := hp4.2
  obtain ⟨cC, ecC⟩ : ∃ z : Int32, z = f 1632 := ⟨_, rfl⟩
  have hcC : cC.toInt = (cn : Int) := by rw [ecC]; exact hp5
  refine lv_aload_n hx hb dX4_readRule_0 rfl (lv_at hl 0 rfl) ?_
  refine kIG.callW (As := []) (rest := []) ⟨hx, hb, hml, hown, hg⟩ (y_inHand l r f a g tx tt hT hI hG   N (i) ob T pl hk0 (by rw [ecz4.symm]; exact hg0) hp2) (cwV 0 hg (kgV wt3_238 wt4_0 wp1_12 wt1_7 wt4_1) rfl rfl rfl (by decide +kernel) ⟨by decide, by decide⟩) hV hK hP hD hS hA (50) 4 rfl rfl rfl hl.1 rfl (Nat.le_of_ble_eq_true rfl) dX4_readRule_1 ⟨Nat.le_refl _, Nat.le_refl _⟩ (fun v4 u5 H locs hw3 hP hD hS => ?_)
  have hP : va_P D vwCl (xX K r f a g tx) H := hP
  have hD : va_D A (xX K r f a g tx) := hD
  have b6 : kb 0 v4 4000 := kb_eq hw3.2 (hk0.2.2.2.2.2.2 (i))
  refine lv_sipush (v := 2004) hx hb dX4_readRule_4 (by decide) ?_
  refine lv_isub hx hb dX4_readRule_7 ?_
  refine lv_topi (fun t7 et7 => ?_)
  have b8 : kb (-2004) t7 1996 := kb_eq et7 (kb_sub b6 kc_2004 (by decide) (by decide))
  have qt7 : t7.toInt = v4.toInt - 2004 := by rw [et7]; exact kt_subc b6 kc_2004 (by decide) (by decide)
  refine lv_istore_n (lv' := [(1, .int t7), (0, .ref (r 50))]) hx hb dX4_readRule_8 rfl hl (by decide) rfl (fun ls hl => ?_)
  refine lv_iload_n hx hb dX4_readRule_9 rfl (lv_at hl 0 rfl) ?_
  refine lv_if_lt (tgt := 29) hx hb dX4_readRule_10 (by decide) (fun c9 => ?_) (fun c9 => ?_)
  · have h10 := (kc_lt c9)
    have b11 : kb (-2004) t7 (-1) := kr_lt1 h10 b8 kc_0 (by decide)
    refine lv_iconst (v := 0) hx hb dX4_readRule_29 (by decide) ?_
    exact kI_ret (v := 0) hx hb hr hlocks (by decide +kernel) hK hS dX4_readRule_30 (f, a, g) hP hD ⟨(kb_w kc_0 (by decide) (by decide)), hI, hG, hE, ⟨i, 0, (by show (f 1604).toInt = ((i : Nat) : Int); rw [ecz4.symm]; exact hg0), (Nat.le_refl i), hp2, Or.inr ⟨rfl, (pi_11x (n11 (fun q => by have w0 : kb 2004 v4 2007 := kb_eq hw3.2 q; have w1 := qt7; have w2 := (b11).1; have w3 := (b11).2; have w4 := w0.1; have w5 := w0.2; omega)).1 (n11 (fun q => by have w0 : kb 2004 v4 2007 := kb_eq hw3.2 q; have w1 := qt7; have w2 := (b11).1; have w3 := (b11).2; have w4 := w0.1; have w5 := w0.2; omega)).2)⟩⟩⟩
  · have h12 := (kc_nlt c9)
    have b13 : kb 0 t7 1996 := kr_le2 h12 kc_0 b8
    refine lv_iload_n hx hb dX4_readRule_13 rfl (lv_at hl 0 rfl) ?_
    refine lv_iconst (v := 4) hx hb dX4_readRule_14 (by decide) ?_
    refine lv_icmp_ge (tgt := 29) hx hb dX4_readRule_15 (by decide) (fun c14 => ?_) (fun c14 => ?_)
    · have h15 := (kc_le c14)
      have b16 : kb 4 t7 1996 := kr_le2 h15 kc_4 b13
      refine lv_iconst (v := 0) hx hb dX4_readRule_29 (by decide) ?_
      exact kI_ret (v := 0) hx hb hr hlocks (by decide +kernel) hK hS dX4_readRule_30 (f, a, g) hP hD ⟨(kb_w kc_0 (by decide) (by decide)), hI, hG, hE, ⟨i, 0, (by show (f 1604).toInt = ((i : Nat) : Int); rw [ecz4.symm]; exact hg0), (Nat.le_refl i), hp2, Or.inr ⟨rfl, (pi_11x (n11 (fun q => by have w0 : kb 2004 v4 2007 := kb_eq hw3.2 q; have w1 := qt7; have w2 := (b16).1; have w3 := (b16).2; have w4 := w0.1; have w5 := w0.2; omega)).1 (n11 (fun q => by have w0 : kb 2004 v4 2007 := kb_eq hw3.2 q; have w1 := qt7; have w2 := (b16).1; have w3 := (b16).2; have w4 := w0.1; have w5 := w0.2; omega)).2)⟩⟩⟩
    · have h17 := (kc_nle c14)
      have b18 : kb 0 t7 3 := kr_lt1 h17 b13 kc_4 (by decide)
      refine lv_aload_n hx hb dX4_readRule_18 rfl (lv_at hl 1 rfl) ?_
      refine va_get (D := D) (ci := 4) (v := .ref (r 51)) (C := RX4) (T := TX4) (N := 7) hx hb hg inC4 hown hK hP 50 rfl rfl 0 (by decide) (hg _ wt2_64) (fun _ h9 => h9) rfl dX4_readRule_19 ?_
      refine lv_iload_n hx hb dX4_readRule_22 rfl (lv_at hl 0 rfl) ?_
      refine kIG.callW (As := [.int t7]) (rest := []) ⟨hx, hb, hml, hown, hg⟩ (y_open l r f a g tx tt hT hI hG t7  cn (by rw [ecC.symm]; exact hcC) hp6) (cwV 1 hg (kgV wt4_2 wt4_3 wt4_4 wt1_8 wt4_5) rfl rfl rfl (by decide +kernel) ⟨by decide, by decide⟩) hV hK hP hD hS hA (51) 10 rfl rfl rfl hl.1 rfl (Nat.le_of_ble_eq_true rfl) dX4_readRule_23 ⟨Nat.le_refl _, Nat.le_refl _⟩ (fun v20 u21 H locs hw19 hP hD hS => ?_)
      obtain ⟨f22, a23, g24⟩ := u21
      have hP : va_P D vwCl (xX K r f22 a23 g24 tx) H := hP
      have hD : va_D A (xX K r f22 a23 g24 tx) := hD
      have hI : xI f22 a23 := hw19.2.1
      have hG : gOK K g24.2 tt := hw19.2.2.1
      have eE25 : xEk ([1632], [52, 53], []) f a g f22 a23 g24 := hw19.2.2.2.1
      have hE : xEk ([1604, 1605, 1632, 1637], [52, 53, 54, 55], []) f a g f22 a23 g24 := xEk_tr hE (xEk_w (by decide +kernel) eE25)
      have hk0 : xQ f22 a23 N ob T pl := xQ_c hk0 (eE25.1 1603 rfl) (eE25.1 1606 rfl) ⟨eE25.2.1 56 rfl, eE25.2.1 57 rfl⟩
      refine k_top (z := 1) (kb_11 hw19.1) ?_
      obtain ⟨z26, ez26⟩ : ∃ z : Int32, z = f22 1632 := ⟨_, rfl⟩
      have hCz26 : z26.toInt = ((cn + 1 : Nat) : Int) := by rw [ez26]; exact hw19.2.2.2.2.1
      refine lv_if_ne (tgt := 31) hx hb dX4_readRule_26 (by decide) (fun c27 => ?_) (fun c27 => ?_)
      · refine lv_aload_n hx hb dX4_readRule_31 rfl (lv_at hl 1 rfl) ?_
        refine lv_dup hx hb dX4_readRule_32 rfl ?_
        have hlt28 : i < N := xQ_lt hk0 (fun q => by have w1 := congrArg Int32.toInt (hw3.2.trans q); have w2 := i4000; have w3 := qt7; have w4 := (b18).2; omega)
        have b29 : kb 0 cz4 399 := kb_pos1 hlt28 hN4 hg0
        refine va_get (D := D) (ci := 4) (v := .int (f22 1604)) (C := RX4) (T := TX4) (N := 7) hx hb hg inC4 hown hK hP 50 rfl rfl 4 (by decide) (hg _ wt2_69) (fun _ h9 => h9) rfl dX4_readRule_33 ?_
        refine k_top (z := cz4) ((eE25.1 1604 rfl).trans ecz4.symm) ?_
        refine lv_iconst (v := 1) hx hb dX4_readRule_36 (by decide) ?_
        refine lv_iadd hx hb dX4_readRule_37 ?_
        refine lv_topi (fun t30 et30 => ?_)
        have b31 : kb 1 t30 400 := kb_eq et30 (kb_add b29 kc_1 (by decide) (by decide))
        have qt30 : t30.toInt = cz4.toInt + 1 := by rw [et30]; exact kt_addc b29 kc_1 (by decide) (by decide)
        have hg32 : t30.toInt = ((i + 1 : Nat) : Int) := by rw [qt30, hg0]; omega
        refine va_put (D := D) (ci := 4) (v := .int t30) (ty := .int) (C := RX4) (T := TX4) (N := 7) hx hb hg inC4 tyX4 tyX4_ok nmX4 hown hK hP hD hS 50 rfl rfl 4 (by decide) (hg _ wt2_69) (fun _ h9 => h9) rfl (by decide +kernel) rfl rfl (Nat.le_of_ble_eq_true rfl) dX4_readRule_38 (fun H locs hP hD hS => ?_)
        have hP : va_P D vwCl (xX K r (upd f22 1604 t30) a23 g24 tx) H := hP
        have hD : va_D A (xX K r (upd f22 1604 t30) a23 g24 tx) := hD
        refine k_gen (P := fun z => va_P D vwCl (xX K r z a23 g24 tx) H ∧ va_D A (xX K r z a23 g24 tx) ∧ (xI z a23) ∧ (gOK K g24.2 tt) ∧ (xEk ([1604, 1605, 1632, 1637], [52, 53, 54, 55], []) f a g z a23 g24) ∧ (xQ z a23 N ob T pl)) (upd f22 1604 t30) ⟨hP, hD, (xI_f hI (fI_st hI.1 1604 (kb_any _) (by decide) (by decide))), hG, (xEk_f hE rfl), (xQ_f hk0 (by decide) (by decide))⟩ (fun f_33 ef_33 hq => ?_)
        obtain ⟨hP, hD, hI, hG, hE, hk0⟩ := hq
        refine lv_iload_n hx hb dX4_readRule_41 rfl (lv_at hl 0 rfl) ?_
        refine lv_iconst (v := 3) hx hb dX4_readRule_42 (by decide) ?_
        refine lv_icmp_eq (tgt := 56) hx hb dX4_readRule_43 (by decide) (fun c34 => ?_) (fun c34 => ?_)
        · have b35 : kb 3 t7 3 := kb_eq c34 kc_3
          refine lv_aload_n hx hb dX4_readRule_56 rfl (lv_at hl 1 rfl) ?_
          refine va_get (D := D) (ci := 4) (v := .ref (r 51)) (C := RX4) (T := TX4) (N := 7) hx hb hg inC4 hown hK hP 50 rfl rfl 0 (by decide) (hg _ wt2_64) (fun _ h9 => h9) rfl dX4_readRule_57 ?_
          refine lv_iconst (v := 0) hx hb dX4_readRule_60 (by decide) ?_
          refine kVG.callW (As := [.int 0]) (rest := []) ⟨hx, hb, hml, hown, hg⟩ (y_close l r f_33 a23 g24 tx tt hT hI hG 0 (kb_w kc_0 (by decide) (by decide)) (cn + 1) (s0) (by show (f_33 1632).toInt = ((cn + 1 : Nat) : Int); rw [((show f_33 1632 = f22 1632 from by rw [← ef_33]; rfl).trans ez26.symm)]; exact hCz26) ⟨Nat.le_add_left 1 cn, by omega⟩ (by show (f_33 1637).toInt = ((s0 : Nat) : Int); rw [((show f_33 1637 = f22 1637 from by rw [← ef_33]; rfl).trans ((eE25.1 1637 rfl).trans ecs.symm))]; exact hcs)) (cwV 1 hg (kgV wt4_30 wt4_31 wt4_32 wt1_8 wt4_33) rfl rfl rfl (by decide +kernel) ⟨by decide, by decide⟩) hV hK hP hD hS hA (51) 10 rfl rfl rfl hl.1 rfl (Nat.le_of_ble_eq_true rfl) dX4_readRule_61 ⟨Nat.le_refl _, Nat.le_refl _⟩ (fun u38 H locs hw36 hP hD hS => ?_)
          obtain ⟨f39, a40, g41⟩ := u38
          have hP : va_P D vwCl (xX K r f39 a40 g41 tx) H := hP
          have hD : va_D A (xX K r f39 a40 g41 tx) := hD
          have hI : xI f39 a40 := hw36.1
          have hG : gOK K g41.2 tt := hw36.2.1
          have eE42 : xEk ([], [54], []) f_33 a23 g24 f39 a40 g41 := hw36.2.2.1
          have hE : xEk ([1604, 1605, 1632, 1637], [52, 53, 54, 55], []) f a g f39 a40 g41 := xEk_tr hE (xEk_w (by decide +kernel) eE42)
          have hk0 : xQ f39 a40 N ob T pl := xQ_c hk0 (eE42.1 1603 rfl) (eE42.1 1606 rfl) ⟨eE42.2.1 56 rfl, eE42.2.1 57 rfl⟩
          have hcl43 : (a40 54 (3 * cn + 1)).toInt = ((s0 : Nat) : Int) ∧ ∀ p, ¬ p = 3 * cn + 1 → a40 54 p = a23 54 p := by
            have w2 : (0 : Int32).toInt = 0 := (by decide +kernel)
            have w1 : 3 * (cn + 1 - 1) + (0 : Int32).toInt.toNat + 1 = 3 * cn + 1 := by rw [w2]; omega
            have w3 := hw36.2.2.2
            rw [w1] at w3
            exact w3
          refine lv_aload_n hx hb dX4_readRule_64 rfl (lv_at hl 1 rfl) ?_
          refine va_get (D := D) (ci := 4) (v := .ref (r 51)) (C := RX4) (T := TX4) (N := 7) hx hb hg inC4 hown hK hP 50 rfl rfl 0 (by decide) (hg _ wt2_64) (fun _ h9 => h9) rfl dX4_readRule_65 ?_
          refine lv_iconst (v := 1) hx hb dX4_readRule_68 (by decide) ?_
          refine kVG.callW (As := [.int 1]) (rest := []) ⟨hx, hb, hml, hown, hg⟩ (y_close l r f39 a40 g41 tx tt hT hI hG 1 (kb_w kc_1 (by decide) (by decide)) (cn + 1) (s0) (by show (f39 1632).toInt = ((cn + 1 : Nat) : Int); rw [((eE42.1 1632 rfl).trans ((show f_33 1632 = f22 1632 from by rw [← ef_33]; rfl).trans ez26.symm))]; exact hCz26) ⟨Nat.le_add_left 1 cn, by omega⟩ (by show (f39 1637).toInt = ((s0 : Nat) : Int); rw [((eE42.1 1637 rfl).trans ((show f_33 1637 = f22 1637 from by rw [← ef_33]; rfl).trans ((eE25.1 1637 rfl).trans ecs.symm)))]; exact hcs)) (cwV 1 hg (kgV wt4_30 wt4_31 wt4_32 wt1_8 wt4_33) rfl rfl rfl (by decide +kernel) ⟨by decide, by decide⟩) hV hK hP hD hS hA (51) 10 rfl rfl rfl hl.1 rfl (Nat.le_of_ble_eq_true rfl) dX4_readRule_69 ⟨Nat.le_refl _, Nat.le_refl _⟩ (fun u46 H locs hw44 hP hD hS => ?_)
          obtain ⟨f47, a48, g49⟩ := u46
          have hP : va_P D vwCl (xX K r f47 a48 g49 tx) H := hP
          have hD : va_D A (xX K r f47 a48 g49 tx) := hD
          have hI : xI f47 a48 := hw44.1
          have hG : gOK K g49.2 tt := hw44.2.1
          have eE50 : xEk ([], [54], []) f39 a40 g41 f47 a48 g49 := hw44.2.2.1
          have hE : xEk ([1604, 1605, 1632, 1637], [52, 53, 54, 55], []) f a g f47 a48 g49 := xEk_tr hE (xEk_w (by decide +kernel) eE50)
          have hk0 : xQ f47 a48 N ob T pl := xQ_c hk0 (eE50.1 1603 rfl) (eE50.1 1606 rfl) ⟨eE50.2.1 56 rfl, eE50.2.1 57 rfl⟩
          have hcl51 : (a48 54 (3 * cn + 2)).toInt = ((s0 : Nat) : Int) ∧ ∀ p, ¬ p = 3 * cn + 2 → a48 54 p = a40 54 p := by
            have w2 : (1 : Int32).toInt = 1 := (by decide +kernel)
            have w1 : 3 * (cn + 1 - 1) + (1 : Int32).toInt.toNat + 1 = 3 * cn + 2 := by rw [w2]; omega
            have w3 := hw44.2.2.2
            rw [w1] at w3
            exact w3
          refine lv_iconst (v := 1) hx hb dX4_readRule_72 (by decide) ?_
          exact kI_ret (v := 1) hx hb hr hlocks (by decide +kernel) hK hS dX4_readRule_73 (f47, a48, g49) hP hD ⟨(kb_w kc_1 (by decide) (by decide)), hI, hG, hE, ⟨i + 1, n, (by show (f47 1604).toInt = ((i + 1 : Nat) : Int); rw [((eE50.1 1604 rfl).trans ((eE42.1 1604 rfl).trans (show f_33 1604 = t30 from by rw [← ef_33]; rfl)))]; exact hg32), (Nat.le_succ_of_le (Nat.le_refl i)), hlt28, Or.inl ⟨rfl, ⟨(by show (f47 1605).toInt = ((n : Nat) : Int); rw [((eE50.1 1605 rfl).trans ((eE42.1 1605 rfl).trans ((show f_33 1605 = f22 1605 from by rw [← ef_33]; rfl).trans ((eE25.1 1605 rfl).trans ecz5.symm))))]; exact hn5), hl5⟩, (by show (f47 1632).toInt = ((cn + 1 : Nat) : Int); rw [((eE50.1 1632 rfl).trans ((eE42.1 1632 rfl).trans ((show f_33 1632 = f22 1632 from by rw [← ef_33]; rfl).trans ez26.symm)))]; exact hCz26), (fun r h => (pi_11b (fun q => by have w1 := ((kb_eq hw3.2.symm (⟨by have w1 := qt7; have w2 := (b35).1; omega, by have w1 := qt7; have w2 := (b35).2; omega⟩ : kb 2007 v4 2007))).1; rcases q with e | e | e <;> (rw [e] at w1; exact absurd w1 (by decide +kernel))) (c_eq (k := 2007) (by have w1 := ((kb_eq hw3.2.symm (⟨by have w1 := qt7; have w2 := (b35).1; omega, by have w1 := qt7; have w2 := (b35).2; omega⟩ : kb 2007 v4 2007))).1; have w2 := ((kb_eq hw3.2.symm (⟨by have w1 := qt7; have w2 := (b35).1; omega, by have w1 := qt7; have w2 := (b35).2; omega⟩ : kb 2007 v4 2007))).2; omega) (by decide +kernel)) h)), ⟨s0, s0, e1, e1, 1, (by show (f47 1637).toInt = ((s0 : Nat) : Int); rw [((eE50.1 1637 rfl).trans ((eE42.1 1637 rfl).trans ((show f_33 1637 = f22 1637 from by rw [← ef_33]; rfl).trans ((eE25.1 1637 rfl).trans ecs.symm))))]; exact hcs), (Nat.le_refl _), (Nat.le_refl _), (by omega), (fun p hp => (congrFun (((eE50.2.1 55 rfl).trans (eE42.2.1 55 rfl)).trans (eE25.2.1 55 rfl)) p)), (fun k hk => ⟨(congrFun ((eE50.2.1 52 rfl).trans (eE42.2.1 52 rfl)) k).trans (hw19.2.2.2.2.2.2.2 k hk).1, ((congrFun ((eE50.2.1 53 rfl).trans (eE42.2.1 53 rfl)) k).trans (hw19.2.2.2.2.2.2.2 k hk).2)⟩), ((congrArg Int32.toInt ((congrFun ((eE50.2.1 52 rfl).trans (eE42.2.1 52 rfl)) cn).trans hw19.2.2.2.2.2.1)).trans (by rw [hb_f hp7]; have w1 := qt7; rw [hw3.2] at w1; exact w1)), ((congrFun ((eE50.2.1 53 rfl).trans (eE42.2.1 53 rfl)) cn).trans hw19.2.2.2.2.2.2.1), (fun k k1 k2 => (congrFun (rfl : a48 54 = a48 54) k).trans ((hcl51.2 k k2).trans ((congrFun (rfl : a40 54 = a40 54) k).trans ((hcl43.2 k k1).trans (congrFun (eE25.2.1 54 rfl) k))))), ((congrArg Int32.toInt ((congrFun (rfl : a48 54 = a48 54) _).trans ((hcl51.2 _ (by omega)).trans (congrFun (rfl : a40 54 = a40 54) _)))).trans hcl43.1), ((congrArg Int32.toInt (congrFun (rfl : a48 54 = a48 54) _)).trans hcl51.1), (Or.inl ⟨rfl, rfl⟩), (Or.inl ⟨rfl, rfl⟩), fun j v3 h => ce_b hp7 (c_eq (k := 2007) (by have w1 := ((kb_eq hw3.2.symm (⟨by have w1 := qt7; have w2 := (b35).1; omega, by have w1 := qt7; have w2 := (b35).2; omega⟩ : kb 2007 v4 2007))).1; have w2 := ((kb_eq hw3.2.symm (⟨by have w1 := qt7; have w2 := (b35).1; omega, by have w1 := qt7; have w2 := (b35).2; omega⟩ : kb 2007 v4 2007))).2; omega) (by decide +kernel)) h⟩⟩⟩⟩
        · have b52 : kb 0 t7 2 := kr_neh c34 b18 kc_3 (by decide)
          refine lv_aload_n hx hb dX4_readRule_46 rfl (lv_at hl 1 rfl) ?_
          refine lv_iconst (v := 0) hx hb dX4_readRule_47 (by decide) ?_
          refine kIG.callW (As := [.int 0]) (rest := []) ⟨hx, hb, hml, hown, hg⟩ ((y_allSum 8) l r f_33 a23 g24 tx tt hT hI hG 0 (kb_w kc_0 (by decide) (by decide)) N (i + 1) (n) (s0) ob T pl hk0 (by rw [(show f_33 1604 = t30 from by rw [← ef_33]; rfl)]; exact hg32) hlt28 ⟨(by rw [((show f_33 1605 = f22 1605 from by rw [← ef_33]; rfl).trans ((eE25.1 1605 rfl).trans ecz5.symm))]; exact hn5), hl5⟩ ⟨(by show (f_33 1637).toInt = ((s0 : Nat) : Int); rw [((show f_33 1637 = f22 1637 from by rw [← ef_33]; rfl).trans ((eE25.1 1637 rfl).trans ecs.symm))]; exact hcs), (by omega)⟩ (by decide +kernel)) (cwV 1 hg (kgV wt4_6 wt4_8 wp1_13 wt1_7 wt4_9) rfl rfl rfl (by decide +kernel) ⟨by decide, by decide⟩) hV hK hP hD hS hA (50) 4 rfl rfl rfl hl.1 rfl (Nat.le_of_ble_eq_true rfl) dX4_readRule_48 ⟨Nat.le_refl _, Nat.le_refl _⟩ (fun v54 u55 H locs hw53 hP hD hS => ?_)
          obtain ⟨f56, a57, g58⟩ := u55
          have hP : va_P D vwCl (xX K r f56 a57 g58 tx) H := hP
          have hD : va_D A (xX K r f56 a57 g58 tx) := hD
          have hI : xI f56 a57 := hw53.2.1
          have hG : gOK K g58.2 tt := hw53.2.2.1
          have eE59 : xEk ([1604, 1605, 1637], [55], []) f_33 a23 g24 f56 a57 g58 := hw53.2.2.2.1
          have hE : xEk ([1604, 1605, 1632, 1637], [52, 53, 54, 55], []) f a g f56 a57 g58 := xEk_tr hE (xEk_w (by decide +kernel) eE59)
          have hk0 : xQ f56 a57 N ob T pl := xQ_c hk0 (eE59.1 1603 rfl) (eE59.1 1606 rfl) ⟨eE59.2.1 56 rfl, eE59.2.1 57 rfl⟩
          obtain ⟨ik60, nk60, hgk60, hlek60, hNk60, hck60⟩ := hw53.2.2.2.2
          rcases hck60 with ⟨hvk60, h3k60, hltk60, hGk60, hcdk60⟩ | ⟨hvk60, hGk60⟩
          · refine k_top (z := 1) hvk60 ?_
            obtain ⟨gv61, egv61⟩ : ∃ z : Int32, z = f56 1604 := ⟨_, rfl⟩
            have hg62 : gv61.toInt = ((ik60 : Nat) : Int) := by rw [egv61]; exact hgk60
            have b63 : kb 0 gv61 400 := kb_pos hNk60 hN4 hg62
            obtain ⟨z64, ez64⟩ : ∃ z : Int32, z = f56 1605 := ⟨_, rfl⟩
            have hzz64 : z64.toInt = ((nk60 : Nat) : Int) := by rw [ez64]; exact h3k60.1
            have b65 : kb 0 z64 50 := ⟨by omega, by have w1 := h3k60.2; omega⟩
            obtain ⟨sk60, wk60, hzk60, hlk60, hqk60, hek60, hrk60⟩ := hcdk60
            obtain ⟨zs66, ezs66⟩ : ∃ z : Int32, z = f56 1637 := ⟨_, rfl⟩
            have hzzs66 : zs66.toInt = ((sk60 : Nat) : Int) := by rw [ezs66]; exact hzk60
            refine lv_if_ne (tgt := 56) hx hb dX4_readRule_51 (by decide) (fun c67 => ?_) (fun c67 => ?_)
            · refine lv_aload_n hx hb dX4_readRule_56 rfl (lv_at hl 1 rfl) ?_
              refine va_get (D := D) (ci := 4) (v := .ref (r 51)) (C := RX4) (T := TX4) (N := 7) hx hb hg inC4 hown hK hP 50 rfl rfl 0 (by decide) (hg _ wt2_64) (fun _ h9 => h9) rfl dX4_readRule_57 ?_
              refine lv_iconst (v := 0) hx hb dX4_readRule_60 (by decide) ?_
              refine kVG.callW (As := [.int 0]) (rest := []) ⟨hx, hb, hml, hown, hg⟩ (y_close l r f56 a57 g58 tx tt hT hI hG 0 (kb_w kc_0 (by decide) (by decide)) (cn + 1) (sk60) (by show (f56 1632).toInt = ((cn + 1 : Nat) : Int); rw [((eE59.1 1632 rfl).trans ((show f_33 1632 = f22 1632 from by rw [← ef_33]; rfl).trans ez26.symm))]; exact hCz26) ⟨Nat.le_add_left 1 cn, by omega⟩ (by show (f56 1637).toInt = ((sk60 : Nat) : Int); rw [ezs66.symm]; exact hzzs66)) (cwV 1 hg (kgV wt4_30 wt4_31 wt4_32 wt1_8 wt4_33) rfl rfl rfl (by decide +kernel) ⟨by decide, by decide⟩) hV hK hP hD hS hA (51) 10 rfl rfl rfl hl.1 rfl (Nat.le_of_ble_eq_true rfl) dX4_readRule_61 ⟨Nat.le_refl _, Nat.le_refl _⟩ (fun u70 H locs hw68 hP hD hS => ?_)
              obtain ⟨f71, a72, g73⟩ := u70
              have hP : va_P D vwCl (xX K r f71 a72 g73 tx) H := hP
              have hD : va_D A (xX K r f71 a72 g73 tx) := hD
              have hI : xI f71 a72 := hw68.1
              have hG : gOK K g73.2 tt := hw68.2.1
              have eE74 : xEk ([], [54], []) f56 a57 g58 f71 a72 g73 := hw68.2.2.1
              have hE : xEk ([1604, 1605, 1632, 1637], [52, 53, 54, 55], []) f a g f71 a72 g73 := xEk_tr hE (xEk_w (by decide +kernel) eE74)
              have hk0 : xQ f71 a72 N ob T pl := xQ_c hk0 (eE74.1 1603 rfl) (eE74.1 1606 rfl) ⟨eE74.2.1 56 rfl, eE74.2.1 57 rfl⟩
              have hcl75 : (a72 54 (3 * cn + 1)).toInt = ((sk60 : Nat) : Int) ∧ ∀ p, ¬ p = 3 * cn + 1 → a72 54 p = a57 54 p := by
                have w2 : (0 : Int32).toInt = 0 := (by decide +kernel)
                have w1 : 3 * (cn + 1 - 1) + (0 : Int32).toInt.toNat + 1 = 3 * cn + 1 := by rw [w2]; omega
                have w3 := hw68.2.2.2
                rw [w1] at w3
                exact w3
              refine lv_aload_n hx hb dX4_readRule_64 rfl (lv_at hl 1 rfl) ?_
              refine va_get (D := D) (ci := 4) (v := .ref (r 51)) (C := RX4) (T := TX4) (N := 7) hx hb hg inC4 hown hK hP 50 rfl rfl 0 (by decide) (hg _ wt2_64) (fun _ h9 => h9) rfl dX4_readRule_65 ?_
              refine lv_iconst (v := 1) hx hb dX4_readRule_68 (by decide) ?_
              refine kVG.callW (As := [.int 1]) (rest := []) ⟨hx, hb, hml, hown, hg⟩ (y_close l r f71 a72 g73 tx tt hT hI hG 1 (kb_w kc_1 (by decide) (by decide)) (cn + 1) (sk60) (by show (f71 1632).toInt = ((cn + 1 : Nat) : Int); rw [((eE74.1 1632 rfl).trans ((eE59.1 1632 rfl).trans ((show f_33 1632 = f22 1632 from by rw [← ef_33]; rfl).trans ez26.symm)))]; exact hCz26) ⟨Nat.le_add_left 1 cn, by omega⟩ (by show (f71 1637).toInt = ((sk60 : Nat) : Int); rw [((eE74.1 1637 rfl).trans ezs66.symm)]; exact hzzs66)) (cwV 1 hg (kgV wt4_30 wt4_31 wt4_32 wt1_8 wt4_33) rfl rfl rfl (by decide +kernel) ⟨by decide, by decide⟩) hV hK hP hD hS hA (51) 10 rfl rfl rfl hl.1 rfl (Nat.le_of_ble_eq_true rfl) dX4_readRule_69 ⟨Nat.le_refl _, Nat.le_refl _⟩ (fun u78 H locs hw76 hP hD hS => ?_)
              obtain ⟨f79, a80, g81⟩ := u78
              have hP : va_P D vwCl (xX K r f79 a80 g81 tx) H := hP
              have hD : va_D A (xX K r f79 a80 g81 tx) := hD
              have hI : xI f79 a80 := hw76.1
              have hG : gOK K g81.2 tt := hw76.2.1
              have eE82 : xEk ([], [54], []) f71 a72 g73 f79 a80 g81 := hw76.2.2.1
              have hE : xEk ([1604, 1605, 1632, 1637], [52, 53, 54, 55], []) f a g f79 a80 g81 := xEk_tr hE (xEk_w (by decide +kernel) eE82)
              have hk0 : xQ f79 a80 N ob T pl := xQ_c hk0 (eE82.1 1603 rfl) (eE82.1 1606 rfl) ⟨eE82.2.1 56 rfl, eE82.2.1 57 rfl⟩
              have hcl83 : (a80 54 (3 * cn + 2)).toInt = ((sk60 : Nat) : Int) ∧ ∀ p, ¬ p = 3 * cn + 2 → a80 54 p = a72 54 p := by
                have w2 : (1 : Int32).toInt = 1 := (by decide +kernel)
                have w1 : 3 * (cn + 1 - 1) + (1 : Int32).toInt.toNat + 1 = 3 * cn + 2 := by rw [w2]; omega
                have w3 := hw76.2.2.2
                rw [w1] at w3
                exact w3
              refine lv_iconst (v := 1) hx hb dX4_readRule_72 (by decide) ?_
              exact kI_ret (v := 1) hx hb hr hlocks (by decide +kernel) hK hS dX4_readRule_73 (f79, a80, g81) hP hD ⟨(kb_w kc_1 (by decide) (by decide)), hI, hG, hE, ⟨ik60, nk60, (by show (f79 1604).toInt = ((ik60 : Nat) : Int); rw [((eE82.1 1604 rfl).trans ((eE74.1 1604 rfl).trans egv61.symm))]; exact hg62), (Nat.le_trans (Nat.le_succ_of_le (Nat.le_refl i)) hlek60), hNk60, Or.inl ⟨rfl, ⟨(by show (f79 1605).toInt = ((nk60 : Nat) : Int); rw [((eE82.1 1605 rfl).trans ((eE74.1 1605 rfl).trans ez64.symm))]; exact hzz64), h3k60.2⟩, (by show (f79 1632).toInt = ((cn + 1 : Nat) : Int); rw [((eE82.1 1632 rfl).trans ((eE74.1 1632 rfl).trans ((eE59.1 1632 rfl).trans ((show f_33 1632 = f22 1632 from by rw [← ef_33]; rfl).trans ez26.symm))))]; exact hCz26), (fun r h => (pi_11a (y11 (kb_eq hw3.2.symm (⟨by have w1 := qt7; have w2 := (b52).1; omega, by have w1 := qt7; have w2 := (b52).2; omega⟩ : kb 2004 v4 2006))) hGk60 h)), ⟨sk60, sk60, wk60, e1, 1, (by show (f79 1637).toInt = ((sk60 : Nat) : Int); rw [((eE82.1 1637 rfl).trans ((eE74.1 1637 rfl).trans ezs66.symm))]; exact hzzs66), (Nat.le_of_lt hrk60.1), (Nat.le_refl _), (by have w1 := hlk60; omega), (fun p hp => (congrFun ((eE82.2.1 55 rfl).trans (eE74.2.1 55 rfl)) p).trans ((hqk60 p hp).trans (congrFun (eE25.2.1 55 rfl) p))), (fun k hk => ⟨(congrFun (((eE82.2.1 52 rfl).trans (eE74.2.1 52 rfl)).trans (eE59.2.1 52 rfl)) k).trans (hw19.2.2.2.2.2.2.2 k hk).1, ((congrFun (((eE82.2.1 53 rfl).trans (eE74.2.1 53 rfl)).trans (eE59.2.1 53 rfl)) k).trans (hw19.2.2.2.2.2.2.2 k hk).2)⟩), ((congrArg Int32.toInt ((congrFun (((eE82.2.1 52 rfl).trans (eE74.2.1 52 rfl)).trans (eE59.2.1 52 rfl)) cn).trans hw19.2.2.2.2.2.1)).trans (by rw [hb_f hp7]; have w1 := qt7; rw [hw3.2] at w1; exact w1)), ((congrFun (((eE82.2.1 53 rfl).trans (eE74.2.1 53 rfl)).trans (eE59.2.1 53 rfl)) cn).trans hw19.2.2.2.2.2.2.1), (fun k k1 k2 => (congrFun (rfl : a80 54 = a80 54) k).trans ((hcl83.2 k k2).trans ((congrFun (rfl : a72 54 = a72 54) k).trans ((hcl75.2 k k1).trans (congrFun ((eE59.2.1 54 rfl).trans (eE25.2.1 54 rfl)) k))))), ((congrArg Int32.toInt ((congrFun (rfl : a80 54 = a80 54) _).trans ((hcl83.2 _ (by omega)).trans (congrFun (rfl : a72 54 = a72 54) _)))).trans hcl75.1), ((congrArg Int32.toInt (congrFun (rfl : a80 54 = a80 54) _)).trans hcl83.1), (Or.inr (rn_w (rn_cg hrk60 (fun p _ _ => (congrFun ((eE82.2.1 55 rfl).trans (eE74.2.1 55 rfl)) p))) (by decide))), (Or.inl ⟨rfl, rfl⟩), fun j v3 h => ce_l hp7 (y11 (kb_eq hw3.2.symm (⟨by have w1 := qt7; have w2 := (b52).1; omega, by have w1 := qt7; have w2 := (b52).2; omega⟩ : kb 2004 v4 2006))) hek60 h⟩⟩⟩⟩
            · exact kb_dj c67 kc_1 kc_0 (by decide)
          · refine k_top (z := 0) hvk60 ?_
            obtain ⟨gv84, egv84⟩ : ∃ z : Int32, z = f56 1604 := ⟨_, rfl⟩
            have hg85 : gv84.toInt = ((ik60 : Nat) : Int) := by rw [egv84]; exact hgk60
            have b86 : kb 0 gv84 400 := kb_pos hNk60 hN4 hg85
            refine lv_if_ne (tgt := 56) hx hb dX4_readRule_51 (by decide) (fun c87 => ?_) (fun c87 => ?_)
            · exact kb_nsame c87 kc_0 kc_0
            · refine lv_iconst (v := 0) hx hb dX4_readRule_54 (by decide) ?_
              exact kI_ret (v := 0) hx hb hr hlocks (by decide +kernel) hK hS dX4_readRule_55 (f56, a57, g58) hP hD ⟨(kb_w kc_0 (by decide) (by decide)), hI, hG, hE, ⟨ik60, 0, (by show (f56 1604).toInt = ((ik60 : Nat) : Int); rw [egv84.symm]; exact hg85), (Nat.le_trans (Nat.le_succ_of_le (Nat.le_refl i)) hlek60), hNk60, Or.inr ⟨rfl, (pi_11f (y11 (kb_eq hw3.2.symm (⟨by have w1 := qt7; have w2 := (b52).1; omega, by have w1 := qt7; have w2 := (b52).2; omega⟩ : kb 2004 v4 2006))) hGk60)⟩⟩⟩
      · exact kb_dj c27 kc_1 kc_0 (by decide)
set_option maxHeartbeats 4000000 in
set_option maxRecDepth 100000 in
theorem y_readOrder  (l : Launch) {D : va_G} {K : Nat → ClassId} (r : Nat → Nat) (f : Nat → Int32) (a : Nat → Nat → Int32) (g : xG) (tx tt : va_W) (hT : ∀ c ∈ tt, c ∈ tx) (hI : xI f a) (hG : gOK K g.2 tt)   (N i n s0 cn : Nat) (ob : Bool) (T pl : Nat → Int32) (hp0 : xQ f a N ob T pl) (hp1 : (f 1604).toInt = (i : Int)) (hp2 : i ≤ N) (hp3 : (f 1605).toInt = (n : Int) ∧ n ≤ 50) (hp4 : (f 1637).toInt = (s0 : Int) ∧ s0 ≤ i) (hp5 : (f 1632).toInt = (cn : Int)) (hp6 : cn < 12) (hp7 : ob = true) : kIG l yX4_readOrder (Cond.code yX4_readOrder cX4_readOrder 2 (some .boolean) :: kG) (rmD 27 0 0) D K [.ref (r 50)] (xX K r f a g tx) (fun v (u : xS) => kb 0 v 1 ∧ xI u.1 u.2.1 ∧ gOK K u.2.2.2 tt ∧ xEk ([1604, 1605, 1632, 1637], [52, 53, 54, 55], []) f a g u.1 u.2.1 u.2.2 ∧ (∃ i2 n2 : Nat, (u.1 1604).toInt = (i2 : Int) ∧ i ≤ i2 ∧ i2 ≤ N ∧ ((v = 1 ∧ ((u.1 1605).toInt = (n2 : Int) ∧ n2 ≤ 50) ∧ (u.1 1632).toInt = ((cn + 1 : Nat) : Int) ∧ (∀ r, pG ob T 8 12 i2 n2 r → pG ob T 8 13 i n r) ∧ hdP ob T i i2 cn s0 a u.2.1 (u.1 1637)) ∨ (v = 0 ∧ pG ob T 8 13 i n (false, i2, 0))))) (fun u => xX K r u.1 u.2.1 u.2.2 tx) 0 0 := by
  refine kIE.of (cc := cX4_readOrder) (maxL := 2) (ret := (some .boolean)) (by decide) rfl (Nat.le_of_ble_eq_true rfl) ?_
  intro p e s m below meth c A hx hb hr hml hown hts hlocks hnm hK hP hD hS hA hV ls hl
  have hE : xEk ([1604, 1605, 1632, 1637], [52, 53, 54, 55], []) f a g f a g := xEk_rf
  have hg : ∀ w ∈ kG, w.before _ s = true := fun w h => hts w (List.mem_cons_of_mem _ h)
  have hown : s.vm.findClass RX4 = some m.cls := hown
  have hl : lv_has ls 2 [(0, .ref (r 50))] := hl
  have hk0 := hp0
  have hN4 := hp0.2.1
  obtain ⟨cz4, ecz4⟩ : ∃ z : Int32, z = f 1604 := ⟨_, rfl⟩
  have hg0 : cz4.toInt = (i : Int) := by rw [ecz4]; exact hp1
  have b1 : kb 0 cz4 400 := kb_pos hp2 hN4 hg0
  obtain ⟨cz5, ecz5⟩ : ∃ z : Int32, z = f 1605 := ⟨_, rfl⟩
  have hn5 : cz5.toInt = (n : Int) := by rw [ecz5]; exact hp3.1
  have hl5 := hp3.2
  have b2 : kb 0 cz5 50 := ⟨by omega, by omega⟩
  obtain ⟨cs, ecs⟩ : ∃ z : Int32, z = f 1637 := ⟨_, rfl⟩
  have hcs : cs.toInt = (s0 : Int) := by rw [ecs]; exact hp4.1
  have hsi := hp4.2
  obtain ⟨cC, ecC⟩ : ∃ z : Int32, z = f 1632 := ⟨_, rfl⟩
  have hcC : cC.toInt = (cn : Int) := by rw [ecC]; exact hp5
  refine lv_aload_n hx hb dX4_readOrder_0 rfl (lv_at hl 0 rfl) ?_
  refine kIG.callW (As := []) (rest := []) ⟨hx, hb, hml, hown, hg⟩ (y_inHand l r f a g tx tt hT hI hG   N (i) ob T pl hk0 (by rw [ecz4.symm]; exact hg0) hp2) (cwV 0 hg (kgV wt3_238 wt4_0 wp1_12 wt1_7 wt4_1) rfl rfl rfl (by decide +kernel) ⟨by decide, by decide⟩) hV hK hP hD hS hA (50) 4 rfl rfl rfl hl.1 rfl (Nat.le_of_ble_eq_true rfl) dX4_readOrder_1 ⟨Nat.le_refl _, Nat.le_refl _⟩ (fun v4 u5 H locs hw3 hP hD hS => ?_)
  have hP : va_P D vwCl (xX K r f a g tx) H := hP
  have hD : va_D A (xX K r f a g tx) := hD
  have b6 : kb 0 v4 4000 := kb_eq hw3.2 (hk0.2.2.2.2.2.2 (i))
  refine lv_sipush (v := 2018) hx hb dX4_readOrder_4 (by decide) ?_
  refine lv_isub hx hb dX4_readOrder_7 ?_
  refine lv_topi (fun t7 et7 => ?_)
  have b8 : kb (-2018) t7 1982 := kb_eq et7 (kb_sub b6 kc_2018 (by decide) (by decide))
  have qt7 : t7.toInt = v4.toInt - 2018 := by rw [et7]; exact kt_subc b6 kc_2018 (by decide) (by decide)
  refine lv_istore_n (lv' := [(1, .int t7), (0, .ref (r 50))]) hx hb dX4_readOrder_8 rfl hl (by decide) rfl (fun ls hl => ?_)
  refine lv_iload_n hx hb dX4_readOrder_9 rfl (lv_at hl 0 rfl) ?_
  refine lv_if_lt (tgt := 29) hx hb dX4_readOrder_10 (by decide) (fun c9 => ?_) (fun c9 => ?_)
  · have h10 := (kc_lt c9)
    have b11 : kb (-2018) t7 (-1) := kr_lt1 h10 b8 kc_0 (by decide)
    refine lv_iconst (v := 0) hx hb dX4_readOrder_29 (by decide) ?_
    exact kI_ret (v := 0) hx hb hr hlocks (by decide +kernel) hK hS dX4_readOrder_30 (f, a, g) hP hD ⟨(kb_w kc_0 (by decide) (by decide)), hI, hG, hE, ⟨i, 0, (by show (f 1604).toInt = ((i : Nat) : Int); rw [ecz4.symm]; exact hg0), (Nat.le_refl i), hp2, Or.inr ⟨rfl, (pi_13x (n13 (fun q => by have w0 : kb 2018 v4 2021 := kb_eq hw3.2 q; have w1 := qt7; have w2 := (b11).1; have w3 := (b11).2; have w4 := w0.1; have w5 := w0.2; omega)).1 (n13 (fun q => by have w0 : kb 2018 v4 2021 := kb_eq hw3.2 q; have w1 := qt7; have w2 := (b11).1; have w3 := (b11).2; have w4 := w0.1; have w5 := w0.2; omega)).2.1 (n13 (fun q => by have w0 : kb 2018 v4 2021 := kb_eq hw3.2 q; have w1 := qt7; have w2 := (b11).1; have w3 := (b11).2; have w4 := w0.1; have w5 := w0.2; omega)).2.2)⟩⟩⟩
  · have h12 := (kc_nlt c9)
    have b13 : kb 0 t7 1982 := kr_le2 h12 kc_0 b8
    refine lv_iload_n hx hb dX4_readOrder_13 rfl (lv_at hl 0 rfl) ?_
    refine lv_iconst (v := 4) hx hb dX4_readOrder_14 (by decide) ?_
    refine lv_icmp_ge (tgt := 29) hx hb dX4_readOrder_15 (by decide) (fun c14 => ?_) (fun c14 => ?_)
    · have h15 := (kc_le c14)
      have b16 : kb 4 t7 1982 := kr_le2 h15 kc_4 b13
      refine lv_iconst (v := 0) hx hb dX4_readOrder_29 (by decide) ?_
      exact kI_ret (v := 0) hx hb hr hlocks (by decide +kernel) hK hS dX4_readOrder_30 (f, a, g) hP hD ⟨(kb_w kc_0 (by decide) (by decide)), hI, hG, hE, ⟨i, 0, (by show (f 1604).toInt = ((i : Nat) : Int); rw [ecz4.symm]; exact hg0), (Nat.le_refl i), hp2, Or.inr ⟨rfl, (pi_13x (n13 (fun q => by have w0 : kb 2018 v4 2021 := kb_eq hw3.2 q; have w1 := qt7; have w2 := (b16).1; have w3 := (b16).2; have w4 := w0.1; have w5 := w0.2; omega)).1 (n13 (fun q => by have w0 : kb 2018 v4 2021 := kb_eq hw3.2 q; have w1 := qt7; have w2 := (b16).1; have w3 := (b16).2; have w4 := w0.1; have w5 := w0.2; omega)).2.1 (n13 (fun q => by have w0 : kb 2018 v4 2021 := kb_eq hw3.2 q; have w1 := qt7; have w2 := (b16).1; have w3 := (b16).2; have w4 := w0.1; have w5 := w0.2; omega)).2.2)⟩⟩⟩
    · have h17 := (kc_nle c14)
      have b18 : kb 0 t7 3 := kr_lt1 h17 b13 kc_4 (by decide)
      refine lv_aload_n hx hb dX4_readOrder_18 rfl (lv_at hl 1 rfl) ?_
      refine va_get (D := D) (ci := 4) (v := .ref (r 51)) (C := RX4) (T := TX4) (N := 7) hx hb hg inC4 hown hK hP 50 rfl rfl 0 (by decide) (hg _ wt2_64) (fun _ h9 => h9) rfl dX4_readOrder_19 ?_
      refine lv_iload_n hx hb dX4_readOrder_22 rfl (lv_at hl 0 rfl) ?_
      refine kIG.callW (As := [.int t7]) (rest := []) ⟨hx, hb, hml, hown, hg⟩ (y_open l r f a g tx tt hT hI hG t7  cn (by rw [ecC.symm]; exact hcC) hp6) (cwV 1 hg (kgV wt4_2 wt4_3 wt4_4 wt1_8 wt4_5) rfl rfl rfl (by decide +kernel) ⟨by decide, by decide⟩) hV hK hP hD hS hA (51) 10 rfl rfl rfl hl.1 rfl (Nat.le_of_ble_eq_true rfl) dX4_readOrder_23 ⟨Nat.le_refl _, Nat.le_refl _⟩ (fun v20 u21 H locs hw19 hP hD hS => ?_)
      obtain ⟨f22, a23, g24⟩ := u21
      have hP : va_P D vwCl (xX K r f22 a23 g24 tx) H := hP
      have hD : va_D A (xX K r f22 a23 g24 tx) := hD
      have hI : xI f22 a23 := hw19.2.1
      have hG : gOK K g24.2 tt := hw19.2.2.1
      have eE25 : xEk ([1632], [52, 53], []) f a g f22 a23 g24 := hw19.2.2.2.1
      have hE : xEk ([1604, 1605, 1632, 1637], [52, 53, 54, 55], []) f a g f22 a23 g24 := xEk_tr hE (xEk_w (by decide +kernel) eE25)
      have hk0 : xQ f22 a23 N ob T pl := xQ_c hk0 (eE25.1 1603 rfl) (eE25.1 1606 rfl) ⟨eE25.2.1 56 rfl, eE25.2.1 57 rfl⟩
      refine k_top (z := 1) (kb_11 hw19.1) ?_
      obtain ⟨z26, ez26⟩ : ∃ z : Int32, z = f22 1632 := ⟨_, rfl⟩
      have hCz26 : z26.toInt = ((cn + 1 : Nat) : Int) := by rw [ez26]; exact hw19.2.2.2.2.1
      refine lv_if_ne (tgt := 31) hx hb dX4_readOrder_26 (by decide) (fun c27 => ?_) (fun c27 => ?_)
      · refine lv_aload_n hx hb dX4_readOrder_31 rfl (lv_at hl 1 rfl) ?_
        refine lv_dup hx hb dX4_readOrder_32 rfl ?_
        have hlt28 : i < N := xQ_lt hk0 (fun q => by have w1 := congrArg Int32.toInt (hw3.2.trans q); have w2 := i4000; have w3 := qt7; have w4 := (b18).2; omega)
        have b29 : kb 0 cz4 399 := kb_pos1 hlt28 hN4 hg0
        refine va_get (D := D) (ci := 4) (v := .int (f22 1604)) (C := RX4) (T := TX4) (N := 7) hx hb hg inC4 hown hK hP 50 rfl rfl 4 (by decide) (hg _ wt2_69) (fun _ h9 => h9) rfl dX4_readOrder_33 ?_
        refine k_top (z := cz4) ((eE25.1 1604 rfl).trans ecz4.symm) ?_
        refine lv_iconst (v := 1) hx hb dX4_readOrder_36 (by decide) ?_
        refine lv_iadd hx hb dX4_readOrder_37 ?_
        refine lv_topi (fun t30 et30 => ?_)
        have b31 : kb 1 t30 400 := kb_eq et30 (kb_add b29 kc_1 (by decide) (by decide))
        have qt30 : t30.toInt = cz4.toInt + 1 := by rw [et30]; exact kt_addc b29 kc_1 (by decide) (by decide)
        have hg32 : t30.toInt = ((i + 1 : Nat) : Int) := by rw [qt30, hg0]; omega
        refine va_put (D := D) (ci := 4) (v := .int t30) (ty := .int) (C := RX4) (T := TX4) (N := 7) hx hb hg inC4 tyX4 tyX4_ok nmX4 hown hK hP hD hS 50 rfl rfl 4 (by decide) (hg _ wt2_69) (fun _ h9 => h9) rfl (by decide +kernel) rfl rfl (Nat.le_of_ble_eq_true rfl) dX4_readOrder_38 (fun H locs hP hD hS => ?_)
        have hP : va_P D vwCl (xX K r (upd f22 1604 t30) a23 g24 tx) H := hP
        have hD : va_D A (xX K r (upd f22 1604 t30) a23 g24 tx) := hD
        refine k_gen (P := fun z => va_P D vwCl (xX K r z a23 g24 tx) H ∧ va_D A (xX K r z a23 g24 tx) ∧ (xI z a23) ∧ (gOK K g24.2 tt) ∧ (xEk ([1604, 1605, 1632, 1637], [52, 53, 54, 55], []) f a g z a23 g24) ∧ (xQ z a23 N ob T pl)) (upd f22 1604 t30) ⟨hP, hD, (xI_f hI (fI_st hI.1 1604 (kb_any _) (by decide) (by decide))), hG, (xEk_f hE rfl), (xQ_f hk0 (by decide) (by decide))⟩ (fun f_33 ef_33 hq => ?_)
        obtain ⟨hP, hD, hI, hG, hE, hk0⟩ := hq
        refine lv_iload_n hx hb dX4_readOrder_41 rfl (lv_at hl 0 rfl) ?_
        refine lv_iconst (v := 3) hx hb dX4_readOrder_42 (by decide) ?_
        refine lv_icmp_eq (tgt := 56) hx hb dX4_readOrder_43 (by decide) (fun c34 => ?_) (fun c34 => ?_)
        · have b35 : kb 3 t7 3 := kb_eq c34 kc_3
          refine lv_aload_n hx hb dX4_readOrder_56 rfl (lv_at hl 1 rfl) ?_
          refine va_get (D := D) (ci := 4) (v := .ref (r 51)) (C := RX4) (T := TX4) (N := 7) hx hb hg inC4 hown hK hP 50 rfl rfl 0 (by decide) (hg _ wt2_64) (fun _ h9 => h9) rfl dX4_readOrder_57 ?_
          refine lv_iconst (v := 0) hx hb dX4_readOrder_60 (by decide) ?_
          refine kVG.callW (As := [.int 0]) (rest := []) ⟨hx, hb, hml, hown, hg⟩ (y_close l r f_33 a23 g24 tx tt hT hI hG 0 (kb_w kc_0 (by decide) (by decide)) (cn + 1) (s0) (by show (f_33 1632).toInt = ((cn + 1 : Nat) : Int); rw [((show f_33 1632 = f22 1632 from by rw [← ef_33]; rfl).trans ez26.symm)]; exact hCz26) ⟨Nat.le_add_left 1 cn, by omega⟩ (by show (f_33 1637).toInt = ((s0 : Nat) : Int); rw [((show f_33 1637 = f22 1637 from by rw [← ef_33]; rfl).trans ((eE25.1 1637 rfl).trans ecs.symm))]; exact hcs)) (cwV 1 hg (kgV wt4_30 wt4_31 wt4_32 wt1_8 wt4_33) rfl rfl rfl (by decide +kernel) ⟨by decide, by decide⟩) hV hK hP hD hS hA (51) 10 rfl rfl rfl hl.1 rfl (Nat.le_of_ble_eq_true rfl) dX4_readOrder_61 ⟨Nat.le_refl _, Nat.le_refl _⟩ (fun u38 H locs hw36 hP hD hS => ?_)
          obtain ⟨f39, a40, g41⟩ := u38
          have hP : va_P D vwCl (xX K r f39 a40 g41 tx) H := hP
          have hD : va_D A (xX K r f39 a40 g41 tx) := hD
          have hI : xI f39 a40 := hw36.1
          have hG : gOK K g41.2 tt := hw36.2.1
          have eE42 : xEk ([], [54], []) f_33 a23 g24 f39 a40 g41 := hw36.2.2.1
          have hE : xEk ([1604, 1605, 1632, 1637], [52, 53, 54, 55], []) f a g f39 a40 g41 := xEk_tr hE (xEk_w (by decide +kernel) eE42)
          have hk0 : xQ f39 a40 N ob T pl := xQ_c hk0 (eE42.1 1603 rfl) (eE42.1 1606 rfl) ⟨eE42.2.1 56 rfl, eE42.2.1 57 rfl⟩
          have hcl43 : (a40 54 (3 * cn + 1)).toInt = ((s0 : Nat) : Int) ∧ ∀ p, ¬ p = 3 * cn + 1 → a40 54 p = a23 54 p := by
            have w2 : (0 : Int32).toInt = 0 := (by decide +kernel)
            have w1 : 3 * (cn + 1 - 1) + (0 : Int32).toInt.toNat + 1 = 3 * cn + 1 := by rw [w2]; omega
            have w3 := hw36.2.2.2
            rw [w1] at w3
            exact w3
          refine lv_iload_n hx hb dX4_readOrder_64 rfl (lv_at hl 0 rfl) ?_
          refine lv_if_ne (tgt := 100) hx hb dX4_readOrder_65 (by decide) (fun c44 => ?_) (fun c44 => ?_)
          · refine lv_aload_n hx hb dX4_readOrder_100 rfl (lv_at hl 1 rfl) ?_
            refine va_get (D := D) (ci := 4) (v := .ref (r 51)) (C := RX4) (T := TX4) (N := 7) hx hb hg inC4 hown hK hP 50 rfl rfl 0 (by decide) (hg _ wt2_64) (fun _ h9 => h9) rfl dX4_readOrder_101 ?_
            refine lv_iconst (v := 1) hx hb dX4_readOrder_104 (by decide) ?_
            refine kVG.callW (As := [.int 1]) (rest := []) ⟨hx, hb, hml, hown, hg⟩ (y_close l r f39 a40 g41 tx tt hT hI hG 1 (kb_w kc_1 (by decide) (by decide)) (cn + 1) (s0) (by show (f39 1632).toInt = ((cn + 1 : Nat) : Int); rw [((eE42.1 1632 rfl).trans ((show f_33 1632 = f22 1632 from by rw [← ef_33]; rfl).trans ez26.symm))]; exact hCz26) ⟨Nat.le_add_left 1 cn, by omega⟩ (by show (f39 1637).toInt = ((s0 : Nat) : Int); rw [((eE42.1 1637 rfl).trans ((show f_33 1637 = f22 1637 from by rw [← ef_33]; rfl).trans ((eE25.1 1637 rfl).trans ecs.symm)))]; exact hcs)) (cwV 1 hg (kgV wt4_30 wt4_31 wt4_32 wt1_8 wt4_33) rfl rfl rfl (by decide +kernel) ⟨by decide, by decide⟩) hV hK hP hD hS hA (51) 10 rfl rfl rfl hl.1 rfl (Nat.le_of_ble_eq_true rfl) dX4_readOrder_105 ⟨Nat.le_refl _, Nat.le_refl _⟩ (fun u47 H locs hw45 hP hD hS => ?_)
            obtain ⟨f48, a49, g50⟩ := u47
            have hP : va_P D vwCl (xX K r f48 a49 g50 tx) H := hP
            have hD : va_D A (xX K r f48 a49 g50 tx) := hD
            have hI : xI f48 a49 := hw45.1
            have hG : gOK K g50.2 tt := hw45.2.1
            have eE51 : xEk ([], [54], []) f39 a40 g41 f48 a49 g50 := hw45.2.2.1
            have hE : xEk ([1604, 1605, 1632, 1637], [52, 53, 54, 55], []) f a g f48 a49 g50 := xEk_tr hE (xEk_w (by decide +kernel) eE51)
            have hk0 : xQ f48 a49 N ob T pl := xQ_c hk0 (eE51.1 1603 rfl) (eE51.1 1606 rfl) ⟨eE51.2.1 56 rfl, eE51.2.1 57 rfl⟩
            have hcl52 : (a49 54 (3 * cn + 2)).toInt = ((s0 : Nat) : Int) ∧ ∀ p, ¬ p = 3 * cn + 2 → a49 54 p = a40 54 p := by
              have w2 : (1 : Int32).toInt = 1 := (by decide +kernel)
              have w1 : 3 * (cn + 1 - 1) + (1 : Int32).toInt.toNat + 1 = 3 * cn + 2 := by rw [w2]; omega
              have w3 := hw45.2.2.2
              rw [w1] at w3
              exact w3
            refine lv_aload_n hx hb dX4_readOrder_108 rfl (lv_at hl 1 rfl) ?_
            refine kIG.callW (As := []) (rest := []) ⟨hx, hb, hml, hown, hg⟩ (y_readTimes l r f48 a49 g50 tx tt hT hI hG   N (i + 1) (cn + 1) ob T pl hk0 (by rw [((eE51.1 1604 rfl).trans ((eE42.1 1604 rfl).trans (show f_33 1604 = t30 from by rw [← ef_33]; rfl)))]; exact hg32) hlt28 (by show (f48 1632).toInt = ((cn + 1 : Nat) : Int); rw [((eE51.1 1632 rfl).trans ((eE42.1 1632 rfl).trans ((show f_33 1632 = f22 1632 from by rw [← ef_33]; rfl).trans ez26.symm)))]; exact hCz26) ⟨Nat.le_add_left 1 cn, by omega⟩ ((congrFun ((eE51.2.1 53 rfl).trans (eE42.2.1 53 rfl)) cn).trans hw19.2.2.2.2.2.2.1)) (cwV 0 hg (kgV wt4_34 wt4_36 wp2_2 wt1_7 wt4_37) rfl rfl rfl (by decide +kernel) ⟨by decide, by decide⟩) hV hK hP hD hS hA (50) 4 rfl rfl rfl hl.1 rfl (Nat.le_of_ble_eq_true rfl) dX4_readOrder_109 ⟨Nat.le_refl _, Nat.le_refl _⟩ (fun v54 u55 H locs hw53 hP hD hS => ?_)
            obtain ⟨f56, a57, g58⟩ := u55
            have hP : va_P D vwCl (xX K r f56 a57 g58 tx) H := hP
            have hD : va_D A (xX K r f56 a57 g58 tx) := hD
            have hI : xI f56 a57 := hw53.2.1
            have hG : gOK K g58.2 tt := hw53.2.2.1
            have eE59 : xEk ([1604], [53], []) f48 a49 g50 f56 a57 g58 := hw53.2.2.2.1
            have hE : xEk ([1604, 1605, 1632, 1637], [52, 53, 54, 55], []) f a g f56 a57 g58 := xEk_tr hE (xEk_w (by decide +kernel) eE59)
            have hk0 : xQ f56 a57 N ob T pl := xQ_c hk0 (eE59.1 1603 rfl) (eE59.1 1606 rfl) ⟨eE59.2.1 56 rfl, eE59.2.1 57 rfl⟩
            obtain ⟨ik60, hgk60, hlek60, hNk60, hck60⟩ := hw53.2.2.2.2
            rcases hck60 with ⟨hvk60, hGk60, hmk60, hok60⟩ | ⟨hvk60, hGk60⟩
            · refine k_top (z := 1) hvk60 ?_
              obtain ⟨gv61, egv61⟩ : ∃ z : Int32, z = f56 1604 := ⟨_, rfl⟩
              have hg62 : gv61.toInt = ((ik60 : Nat) : Int) := by rw [egv61]; exact hgk60
              have b63 : kb 0 gv61 400 := kb_pos hNk60 hN4 hg62
              obtain ⟨tmk60, htk60, huk60⟩ := hmk60
              exact kI_ret (v := 1) hx hb hr hlocks (by decide +kernel) hK hS dX4_readOrder_112 (f56, a57, g58) hP hD ⟨(kb_w kc_1 (by decide) (by decide)), hI, hG, hE, ⟨ik60, n, (by show (f56 1604).toInt = ((ik60 : Nat) : Int); rw [egv61.symm]; exact hg62), (Nat.le_trans (Nat.le_succ_of_le (Nat.le_refl i)) hlek60), hNk60, Or.inl ⟨rfl, ⟨(by show (f56 1605).toInt = ((n : Nat) : Int); rw [((eE59.1 1605 rfl).trans ((eE51.1 1605 rfl).trans ((eE42.1 1605 rfl).trans ((show f_33 1605 = f22 1605 from by rw [← ef_33]; rfl).trans ((eE25.1 1605 rfl).trans ecz5.symm)))))]; exact hn5), hl5⟩, (by show (f56 1632).toInt = ((cn + 1 : Nat) : Int); rw [((eE59.1 1632 rfl).trans ((eE51.1 1632 rfl).trans ((eE42.1 1632 rfl).trans ((show f_33 1632 = f22 1632 from by rw [← ef_33]; rfl).trans ez26.symm))))]; exact hCz26), (fun r h => (pi_13c (fun q => by have w1 := ((kb_eq hw3.2.symm (⟨by have w1 := qt7; have w2 := (b35).1; omega, by have w1 := qt7; have w2 := (b35).2; omega⟩ : kb 2021 v4 2021))).1; rw [q] at w1; exact absurd w1 (by decide +kernel)) (fun q => by have w1 := ((kb_eq hw3.2.symm (⟨by have w1 := qt7; have w2 := (b35).1; omega, by have w1 := qt7; have w2 := (b35).2; omega⟩ : kb 2021 v4 2021))).1; rcases q with e | e <;> (rw [e] at w1; exact absurd w1 (by decide +kernel))) (c_eq (k := 2021) (by have w1 := ((kb_eq hw3.2.symm (⟨by have w1 := qt7; have w2 := (b35).1; omega, by have w1 := qt7; have w2 := (b35).2; omega⟩ : kb 2021 v4 2021))).1; have w2 := ((kb_eq hw3.2.symm (⟨by have w1 := qt7; have w2 := (b35).1; omega, by have w1 := qt7; have w2 := (b35).2; omega⟩ : kb 2021 v4 2021))).2; omega) (by decide +kernel)) (hGk60 _ _ h))), ⟨s0, s0, e1, e1, tmk60, (by show (f56 1637).toInt = ((s0 : Nat) : Int); rw [((eE59.1 1637 rfl).trans ((eE51.1 1637 rfl).trans ((eE42.1 1637 rfl).trans ((show f_33 1637 = f22 1637 from by rw [← ef_33]; rfl).trans ((eE25.1 1637 rfl).trans ecs.symm)))))]; exact hcs), (Nat.le_refl _), (Nat.le_refl _), (by omega), (fun p hp => (congrFun ((((eE59.2.1 55 rfl).trans (eE51.2.1 55 rfl)).trans (eE42.2.1 55 rfl)).trans (eE25.2.1 55 rfl)) p)), (fun k hk => ⟨(congrFun (((eE59.2.1 52 rfl).trans (eE51.2.1 52 rfl)).trans (eE42.2.1 52 rfl)) k).trans (hw19.2.2.2.2.2.2.2 k hk).1, ((congrFun (rfl : a57 53 = a57 53) k).trans ((hok60 k hk).trans ((congrFun ((eE51.2.1 53 rfl).trans (eE42.2.1 53 rfl)) k).trans (hw19.2.2.2.2.2.2.2 k hk).2)))⟩), ((congrArg Int32.toInt ((congrFun (((eE59.2.1 52 rfl).trans (eE51.2.1 52 rfl)).trans (eE42.2.1 52 rfl)) cn).trans hw19.2.2.2.2.2.1)).trans (by rw [hb_t hp7]; have w1 := qt7; rw [hw3.2] at w1; exact w1)), ((congrFun (rfl : a57 53 = a57 53) cn).trans huk60), (fun k k1 k2 => (congrFun (eE59.2.1 54 rfl) k).trans ((hcl52.2 k k2).trans ((congrFun (rfl : a40 54 = a40 54) k).trans ((hcl43.2 k k1).trans (congrFun (eE25.2.1 54 rfl) k))))), ((congrArg Int32.toInt ((congrFun (eE59.2.1 54 rfl) _).trans ((hcl52.2 _ (by omega)).trans (congrFun (rfl : a40 54 = a40 54) _)))).trans hcl43.1), ((congrArg Int32.toInt (congrFun (eE59.2.1 54 rfl) _)).trans hcl52.1), (Or.inl ⟨rfl, rfl⟩), (Or.inl ⟨rfl, rfl⟩), fun j v3 h => ce_t hp7 (c_eq (k := 2021) (by have w1 := ((kb_eq hw3.2.symm (⟨by have w1 := qt7; have w2 := (b35).1; omega, by have w1 := qt7; have w2 := (b35).2; omega⟩ : kb 2021 v4 2021))).1; have w2 := ((kb_eq hw3.2.symm (⟨by have w1 := qt7; have w2 := (b35).1; omega, by have w1 := qt7; have w2 := (b35).2; omega⟩ : kb 2021 v4 2021))).2; omega) (by decide +kernel)) htk60 h⟩⟩⟩⟩
            · refine k_top (z := 0) hvk60 ?_
              obtain ⟨gv64, egv64⟩ : ∃ z : Int32, z = f56 1604 := ⟨_, rfl⟩
              have hg65 : gv64.toInt = ((ik60 : Nat) : Int) := by rw [egv64]; exact hgk60
              have b66 : kb 0 gv64 400 := kb_pos hNk60 hN4 hg65
              exact kI_ret (v := 0) hx hb hr hlocks (by decide +kernel) hK hS dX4_readOrder_112 (f56, a57, g58) hP hD ⟨(kb_w kc_0 (by decide) (by decide)), hI, hG, hE, ⟨ik60, 0, (by show (f56 1604).toInt = ((ik60 : Nat) : Int); rw [egv64.symm]; exact hg65), (Nat.le_trans (Nat.le_succ_of_le (Nat.le_refl i)) hlek60), hNk60, Or.inr ⟨rfl, (pi_13c (fun q => by have w1 := ((kb_eq hw3.2.symm (⟨by have w1 := qt7; have w2 := (b35).1; omega, by have w1 := qt7; have w2 := (b35).2; omega⟩ : kb 2021 v4 2021))).1; rw [q] at w1; exact absurd w1 (by decide +kernel)) (fun q => by have w1 := ((kb_eq hw3.2.symm (⟨by have w1 := qt7; have w2 := (b35).1; omega, by have w1 := qt7; have w2 := (b35).2; omega⟩ : kb 2021 v4 2021))).1; rcases q with e | e <;> (rw [e] at w1; exact absurd w1 (by decide +kernel))) (c_eq (k := 2021) (by have w1 := ((kb_eq hw3.2.symm (⟨by have w1 := qt7; have w2 := (b35).1; omega, by have w1 := qt7; have w2 := (b35).2; omega⟩ : kb 2021 v4 2021))).1; have w2 := ((kb_eq hw3.2.symm (⟨by have w1 := qt7; have w2 := (b35).1; omega, by have w1 := qt7; have w2 := (b35).2; omega⟩ : kb 2021 v4 2021))).2; omega) (by decide +kernel)) (hGk60 _))⟩⟩⟩
          · exact kb_dj c44 b35 kc_0 (by decide)
        · have b67 : kb 0 t7 2 := kr_neh c34 b18 kc_3 (by decide)
          refine lv_aload_n hx hb dX4_readOrder_46 rfl (lv_at hl 1 rfl) ?_
          refine lv_iconst (v := 0) hx hb dX4_readOrder_47 (by decide) ?_
          refine kIG.callW (As := [.int 0]) (rest := []) ⟨hx, hb, hml, hown, hg⟩ ((y_allSum 8) l r f_33 a23 g24 tx tt hT hI hG 0 (kb_w kc_0 (by decide) (by decide)) N (i + 1) (n) (s0) ob T pl hk0 (by rw [(show f_33 1604 = t30 from by rw [← ef_33]; rfl)]; exact hg32) hlt28 ⟨(by rw [((show f_33 1605 = f22 1605 from by rw [← ef_33]; rfl).trans ((eE25.1 1605 rfl).trans ecz5.symm))]; exact hn5), hl5⟩ ⟨(by show (f_33 1637).toInt = ((s0 : Nat) : Int); rw [((show f_33 1637 = f22 1637 from by rw [← ef_33]; rfl).trans ((eE25.1 1637 rfl).trans ecs.symm))]; exact hcs), (by omega)⟩ (by decide +kernel)) (cwV 1 hg (kgV wt4_6 wt4_8 wp1_13 wt1_7 wt4_9) rfl rfl rfl (by decide +kernel) ⟨by decide, by decide⟩) hV hK hP hD hS hA (50) 4 rfl rfl rfl hl.1 rfl (Nat.le_of_ble_eq_true rfl) dX4_readOrder_48 ⟨Nat.le_refl _, Nat.le_refl _⟩ (fun v69 u70 H locs hw68 hP hD hS => ?_)
          obtain ⟨f71, a72, g73⟩ := u70
          have hP : va_P D vwCl (xX K r f71 a72 g73 tx) H := hP
          have hD : va_D A (xX K r f71 a72 g73 tx) := hD
          have hI : xI f71 a72 := hw68.2.1
          have hG : gOK K g73.2 tt := hw68.2.2.1
          have eE74 : xEk ([1604, 1605, 1637], [55], []) f_33 a23 g24 f71 a72 g73 := hw68.2.2.2.1
          have hE : xEk ([1604, 1605, 1632, 1637], [52, 53, 54, 55], []) f a g f71 a72 g73 := xEk_tr hE (xEk_w (by decide +kernel) eE74)
          have hk0 : xQ f71 a72 N ob T pl := xQ_c hk0 (eE74.1 1603 rfl) (eE74.1 1606 rfl) ⟨eE74.2.1 56 rfl, eE74.2.1 57 rfl⟩
          obtain ⟨ik75, nk75, hgk75, hlek75, hNk75, hck75⟩ := hw68.2.2.2.2
          rcases hck75 with ⟨hvk75, h3k75, hltk75, hGk75, hcdk75⟩ | ⟨hvk75, hGk75⟩
          · refine k_top (z := 1) hvk75 ?_
            obtain ⟨gv76, egv76⟩ : ∃ z : Int32, z = f71 1604 := ⟨_, rfl⟩
            have hg77 : gv76.toInt = ((ik75 : Nat) : Int) := by rw [egv76]; exact hgk75
            have b78 : kb 0 gv76 400 := kb_pos hNk75 hN4 hg77
            obtain ⟨z79, ez79⟩ : ∃ z : Int32, z = f71 1605 := ⟨_, rfl⟩
            have hzz79 : z79.toInt = ((nk75 : Nat) : Int) := by rw [ez79]; exact h3k75.1
            have b80 : kb 0 z79 50 := ⟨by omega, by have w1 := h3k75.2; omega⟩
            obtain ⟨sk75, wk75, hzk75, hlk75, hqk75, hek75, hrk75⟩ := hcdk75
            obtain ⟨zs81, ezs81⟩ : ∃ z : Int32, z = f71 1637 := ⟨_, rfl⟩
            have hzzs81 : zs81.toInt = ((sk75 : Nat) : Int) := by rw [ezs81]; exact hzk75
            refine lv_if_ne (tgt := 56) hx hb dX4_readOrder_51 (by decide) (fun c82 => ?_) (fun c82 => ?_)
            · refine lv_aload_n hx hb dX4_readOrder_56 rfl (lv_at hl 1 rfl) ?_
              refine va_get (D := D) (ci := 4) (v := .ref (r 51)) (C := RX4) (T := TX4) (N := 7) hx hb hg inC4 hown hK hP 50 rfl rfl 0 (by decide) (hg _ wt2_64) (fun _ h9 => h9) rfl dX4_readOrder_57 ?_
              refine lv_iconst (v := 0) hx hb dX4_readOrder_60 (by decide) ?_
              refine kVG.callW (As := [.int 0]) (rest := []) ⟨hx, hb, hml, hown, hg⟩ (y_close l r f71 a72 g73 tx tt hT hI hG 0 (kb_w kc_0 (by decide) (by decide)) (cn + 1) (sk75) (by show (f71 1632).toInt = ((cn + 1 : Nat) : Int); rw [((eE74.1 1632 rfl).trans ((show f_33 1632 = f22 1632 from by rw [← ef_33]; rfl).trans ez26.symm))]; exact hCz26) ⟨Nat.le_add_left 1 cn, by omega⟩ (by show (f71 1637).toInt = ((sk75 : Nat) : Int); rw [ezs81.symm]; exact hzzs81)) (cwV 1 hg (kgV wt4_30 wt4_31 wt4_32 wt1_8 wt4_33) rfl rfl rfl (by decide +kernel) ⟨by decide, by decide⟩) hV hK hP hD hS hA (51) 10 rfl rfl rfl hl.1 rfl (Nat.le_of_ble_eq_true rfl) dX4_readOrder_61 ⟨Nat.le_refl _, Nat.le_refl _⟩ (fun u85 H locs hw83 hP hD hS => ?_)
              obtain ⟨f86, a87, g88⟩ := u85
              have hP : va_P D vwCl (xX K r f86 a87 g88 tx) H := hP
              have hD : va_D A (xX K r f86 a87 g88 tx) := hD
              have hI : xI f86 a87 := hw83.1
              have hG : gOK K g88.2 tt := hw83.2.1
              have eE89 : xEk ([], [54], []) f71 a72 g73 f86 a87 g88 := hw83.2.2.1
              have hE : xEk ([1604, 1605, 1632, 1637], [52, 53, 54, 55], []) f a g f86 a87 g88 := xEk_tr hE (xEk_w (by decide +kernel) eE89)
              have hk0 : xQ f86 a87 N ob T pl := xQ_c hk0 (eE89.1 1603 rfl) (eE89.1 1606 rfl) ⟨eE89.2.1 56 rfl, eE89.2.1 57 rfl⟩
              have hcl90 : (a87 54 (3 * cn + 1)).toInt = ((sk75 : Nat) : Int) ∧ ∀ p, ¬ p = 3 * cn + 1 → a87 54 p = a72 54 p := by
                have w2 : (0 : Int32).toInt = 0 := (by decide +kernel)
                have w1 : 3 * (cn + 1 - 1) + (0 : Int32).toInt.toNat + 1 = 3 * cn + 1 := by rw [w2]; omega
                have w3 := hw83.2.2.2
                rw [w1] at w3
                exact w3
              refine lv_iload_n hx hb dX4_readOrder_64 rfl (lv_at hl 0 rfl) ?_
              refine lv_if_ne (tgt := 100) hx hb dX4_readOrder_65 (by decide) (fun c91 => ?_) (fun c91 => ?_)
              · have b92 : kb 1 t7 2 := kr_nel c91 b67 kc_0 (by decide)
                refine lv_aload_n hx hb dX4_readOrder_100 rfl (lv_at hl 1 rfl) ?_
                refine va_get (D := D) (ci := 4) (v := .ref (r 51)) (C := RX4) (T := TX4) (N := 7) hx hb hg inC4 hown hK hP 50 rfl rfl 0 (by decide) (hg _ wt2_64) (fun _ h9 => h9) rfl dX4_readOrder_101 ?_
                refine lv_iconst (v := 1) hx hb dX4_readOrder_104 (by decide) ?_
                refine kVG.callW (As := [.int 1]) (rest := []) ⟨hx, hb, hml, hown, hg⟩ (y_close l r f86 a87 g88 tx tt hT hI hG 1 (kb_w kc_1 (by decide) (by decide)) (cn + 1) (sk75) (by show (f86 1632).toInt = ((cn + 1 : Nat) : Int); rw [((eE89.1 1632 rfl).trans ((eE74.1 1632 rfl).trans ((show f_33 1632 = f22 1632 from by rw [← ef_33]; rfl).trans ez26.symm)))]; exact hCz26) ⟨Nat.le_add_left 1 cn, by omega⟩ (by show (f86 1637).toInt = ((sk75 : Nat) : Int); rw [((eE89.1 1637 rfl).trans ezs81.symm)]; exact hzzs81)) (cwV 1 hg (kgV wt4_30 wt4_31 wt4_32 wt1_8 wt4_33) rfl rfl rfl (by decide +kernel) ⟨by decide, by decide⟩) hV hK hP hD hS hA (51) 10 rfl rfl rfl hl.1 rfl (Nat.le_of_ble_eq_true rfl) dX4_readOrder_105 ⟨Nat.le_refl _, Nat.le_refl _⟩ (fun u95 H locs hw93 hP hD hS => ?_)
                obtain ⟨f96, a97, g98⟩ := u95
                have hP : va_P D vwCl (xX K r f96 a97 g98 tx) H := hP
                have hD : va_D A (xX K r f96 a97 g98 tx) := hD
                have hI : xI f96 a97 := hw93.1
                have hG : gOK K g98.2 tt := hw93.2.1
                have eE99 : xEk ([], [54], []) f86 a87 g88 f96 a97 g98 := hw93.2.2.1
                have hE : xEk ([1604, 1605, 1632, 1637], [52, 53, 54, 55], []) f a g f96 a97 g98 := xEk_tr hE (xEk_w (by decide +kernel) eE99)
                have hk0 : xQ f96 a97 N ob T pl := xQ_c hk0 (eE99.1 1603 rfl) (eE99.1 1606 rfl) ⟨eE99.2.1 56 rfl, eE99.2.1 57 rfl⟩
                have hcl100 : (a97 54 (3 * cn + 2)).toInt = ((sk75 : Nat) : Int) ∧ ∀ p, ¬ p = 3 * cn + 2 → a97 54 p = a87 54 p := by
                  have w2 : (1 : Int32).toInt = 1 := (by decide +kernel)
                  have w1 : 3 * (cn + 1 - 1) + (1 : Int32).toInt.toNat + 1 = 3 * cn + 2 := by rw [w2]; omega
                  have w3 := hw93.2.2.2
                  rw [w1] at w3
                  exact w3
                refine lv_aload_n hx hb dX4_readOrder_108 rfl (lv_at hl 1 rfl) ?_
                refine kIG.callW (As := []) (rest := []) ⟨hx, hb, hml, hown, hg⟩ (y_readTimes l r f96 a97 g98 tx tt hT hI hG   N (ik75) (cn + 1) ob T pl hk0 (by rw [((eE99.1 1604 rfl).trans ((eE89.1 1604 rfl).trans egv76.symm))]; exact hg77) hNk75 (by show (f96 1632).toInt = ((cn + 1 : Nat) : Int); rw [((eE99.1 1632 rfl).trans ((eE89.1 1632 rfl).trans ((eE74.1 1632 rfl).trans ((show f_33 1632 = f22 1632 from by rw [← ef_33]; rfl).trans ez26.symm))))]; exact hCz26) ⟨Nat.le_add_left 1 cn, by omega⟩ ((congrFun (((eE99.2.1 53 rfl).trans (eE89.2.1 53 rfl)).trans (eE74.2.1 53 rfl)) cn).trans hw19.2.2.2.2.2.2.1)) (cwV 0 hg (kgV wt4_34 wt4_36 wp2_2 wt1_7 wt4_37) rfl rfl rfl (by decide +kernel) ⟨by decide, by decide⟩) hV hK hP hD hS hA (50) 4 rfl rfl rfl hl.1 rfl (Nat.le_of_ble_eq_true rfl) dX4_readOrder_109 ⟨Nat.le_refl _, Nat.le_refl _⟩ (fun v102 u103 H locs hw101 hP hD hS => ?_)
                obtain ⟨f104, a105, g106⟩ := u103
                have hP : va_P D vwCl (xX K r f104 a105 g106 tx) H := hP
                have hD : va_D A (xX K r f104 a105 g106 tx) := hD
                have hI : xI f104 a105 := hw101.2.1
                have hG : gOK K g106.2 tt := hw101.2.2.1
                have eE107 : xEk ([1604], [53], []) f96 a97 g98 f104 a105 g106 := hw101.2.2.2.1
                have hE : xEk ([1604, 1605, 1632, 1637], [52, 53, 54, 55], []) f a g f104 a105 g106 := xEk_tr hE (xEk_w (by decide +kernel) eE107)
                have hk0 : xQ f104 a105 N ob T pl := xQ_c hk0 (eE107.1 1603 rfl) (eE107.1 1606 rfl) ⟨eE107.2.1 56 rfl, eE107.2.1 57 rfl⟩
                obtain ⟨ik108, hgk108, hlek108, hNk108, hck108⟩ := hw101.2.2.2.2
                rcases hck108 with ⟨hvk108, hGk108, hmk108, hok108⟩ | ⟨hvk108, hGk108⟩
                · refine k_top (z := 1) hvk108 ?_
                  obtain ⟨gv109, egv109⟩ : ∃ z : Int32, z = f104 1604 := ⟨_, rfl⟩
                  have hg110 : gv109.toInt = ((ik108 : Nat) : Int) := by rw [egv109]; exact hgk108
                  have b111 : kb 0 gv109 400 := kb_pos hNk108 hN4 hg110
                  obtain ⟨tmk108, htk108, huk108⟩ := hmk108
                  exact kI_ret (v := 1) hx hb hr hlocks (by decide +kernel) hK hS dX4_readOrder_112 (f104, a105, g106) hP hD ⟨(kb_w kc_1 (by decide) (by decide)), hI, hG, hE, ⟨ik108, nk75, (by show (f104 1604).toInt = ((ik108 : Nat) : Int); rw [egv109.symm]; exact hg110), (Nat.le_trans (Nat.le_trans (Nat.le_succ_of_le (Nat.le_refl i)) hlek75) hlek108), hNk108, Or.inl ⟨rfl, ⟨(by show (f104 1605).toInt = ((nk75 : Nat) : Int); rw [((eE107.1 1605 rfl).trans ((eE99.1 1605 rfl).trans ((eE89.1 1605 rfl).trans ez79.symm)))]; exact hzz79), h3k75.2⟩, (by show (f104 1632).toInt = ((cn + 1 : Nat) : Int); rw [((eE107.1 1632 rfl).trans ((eE99.1 1632 rfl).trans ((eE89.1 1632 rfl).trans ((eE74.1 1632 rfl).trans ((show f_33 1632 = f22 1632 from by rw [← ef_33]; rfl).trans ez26.symm)))))]; exact hCz26), (fun r h => (pi_13b (fun q => by have w1 := ((kb_eq hw3.2.symm (⟨by have w1 := qt7; have w2 := (b92).1; omega, by have w1 := qt7; have w2 := (b92).2; omega⟩ : kb 2019 v4 2020))).1; rw [q] at w1; exact absurd w1 (by decide +kernel)) (y13 (kb_eq hw3.2.symm (⟨by have w1 := qt7; have w2 := (b92).1; omega, by have w1 := qt7; have w2 := (b92).2; omega⟩ : kb 2019 v4 2020))) (pi_17 hGk75 (hGk108 _ _ h)))), ⟨sk75, sk75, wk75, e1, tmk108, (by show (f104 1637).toInt = ((sk75 : Nat) : Int); rw [((eE107.1 1637 rfl).trans ((eE99.1 1637 rfl).trans ((eE89.1 1637 rfl).trans ezs81.symm)))]; exact hzzs81), (Nat.le_of_lt hrk75.1), (Nat.le_refl _), (by have w1 := hlk75; omega), (fun p hp => (congrFun (((eE107.2.1 55 rfl).trans (eE99.2.1 55 rfl)).trans (eE89.2.1 55 rfl)) p).trans ((hqk75 p hp).trans (congrFun (eE25.2.1 55 rfl) p))), (fun k hk => ⟨(congrFun ((((eE107.2.1 52 rfl).trans (eE99.2.1 52 rfl)).trans (eE89.2.1 52 rfl)).trans (eE74.2.1 52 rfl)) k).trans (hw19.2.2.2.2.2.2.2 k hk).1, ((congrFun (rfl : a105 53 = a105 53) k).trans ((hok108 k hk).trans ((congrFun (((eE99.2.1 53 rfl).trans (eE89.2.1 53 rfl)).trans (eE74.2.1 53 rfl)) k).trans (hw19.2.2.2.2.2.2.2 k hk).2)))⟩), ((congrArg Int32.toInt ((congrFun ((((eE107.2.1 52 rfl).trans (eE99.2.1 52 rfl)).trans (eE89.2.1 52 rfl)).trans (eE74.2.1 52 rfl)) cn).trans hw19.2.2.2.2.2.1)).trans (by rw [hb_t hp7]; have w1 := qt7; rw [hw3.2] at w1; exact w1)), ((congrFun (rfl : a105 53 = a105 53) cn).trans huk108), (fun k k1 k2 => (congrFun (eE107.2.1 54 rfl) k).trans ((hcl100.2 k k2).trans ((congrFun (rfl : a87 54 = a87 54) k).trans ((hcl90.2 k k1).trans (congrFun ((eE74.2.1 54 rfl).trans (eE25.2.1 54 rfl)) k))))), ((congrArg Int32.toInt ((congrFun (eE107.2.1 54 rfl) _).trans ((hcl100.2 _ (by omega)).trans (congrFun (rfl : a87 54 = a87 54) _)))).trans hcl90.1), ((congrArg Int32.toInt (congrFun (eE107.2.1 54 rfl) _)).trans hcl100.1), (Or.inr (rn_w (rn_cg hrk75 (fun p _ _ => (congrFun (((eE107.2.1 55 rfl).trans (eE99.2.1 55 rfl)).trans (eE89.2.1 55 rfl)) p))) (by decide))), (Or.inl ⟨rfl, rfl⟩), fun j v3 h => ce_r hp7 (y13 (kb_eq hw3.2.symm (⟨by have w1 := qt7; have w2 := (b92).1; omega, by have w1 := qt7; have w2 := (b92).2; omega⟩ : kb 2019 v4 2020))) hek75 htk108 h⟩⟩⟩⟩
                · refine k_top (z := 0) hvk108 ?_
                  obtain ⟨gv112, egv112⟩ : ∃ z : Int32, z = f104 1604 := ⟨_, rfl⟩
                  have hg113 : gv112.toInt = ((ik108 : Nat) : Int) := by rw [egv112]; exact hgk108
                  have b114 : kb 0 gv112 400 := kb_pos hNk108 hN4 hg113
                  exact kI_ret (v := 0) hx hb hr hlocks (by decide +kernel) hK hS dX4_readOrder_112 (f104, a105, g106) hP hD ⟨(kb_w kc_0 (by decide) (by decide)), hI, hG, hE, ⟨ik108, 0, (by show (f104 1604).toInt = ((ik108 : Nat) : Int); rw [egv112.symm]; exact hg113), (Nat.le_trans (Nat.le_trans (Nat.le_succ_of_le (Nat.le_refl i)) hlek75) hlek108), hNk108, Or.inr ⟨rfl, (pi_13b (fun q => by have w1 := ((kb_eq hw3.2.symm (⟨by have w1 := qt7; have w2 := (b92).1; omega, by have w1 := qt7; have w2 := (b92).2; omega⟩ : kb 2019 v4 2020))).1; rw [q] at w1; exact absurd w1 (by decide +kernel)) (y13 (kb_eq hw3.2.symm (⟨by have w1 := qt7; have w2 := (b92).1; omega, by have w1 := qt7; have w2 := (b92).2; omega⟩ : kb 2019 v4 2020))) (pi_17 hGk75 (hGk108 _)))⟩⟩⟩
              · have b115 : kb 0 t7 0 := kb_eq c91 kc_0
                refine lv_aload_n hx hb dX4_readOrder_68 rfl (lv_at hl 1 rfl) ?_
                refine kIG.callW (As := []) (rest := []) ⟨hx, hb, hml, hown, hg⟩ (y_inHand l r f86 a87 g88 tx tt hT hI hG   N (ik75) ob T pl hk0 (by rw [((eE89.1 1604 rfl).trans egv76.symm)]; exact hg77) hNk75) (cwV 0 hg (kgV wt3_238 wt4_0 wp1_12 wt1_7 wt4_1) rfl rfl rfl (by decide +kernel) ⟨by decide, by decide⟩) hV hK hP hD hS hA (50) 4 rfl rfl rfl hl.1 rfl (Nat.le_of_ble_eq_true rfl) dX4_readOrder_69 ⟨Nat.le_refl _, Nat.le_refl _⟩ (fun v117 u118 H locs hw116 hP hD hS => ?_)
                have hP : va_P D vwCl (xX K r f86 a87 g88 tx) H := hP
                have hD : va_D A (xX K r f86 a87 g88 tx) := hD
                have b119 : kb 0 v117 4000 := kb_eq hw116.2 (hk0.2.2.2.2.2.2 (ik75))
                refine lv_sipush (v := 2022) hx hb dX4_readOrder_72 (by decide) ?_
                refine lv_icmp_eq (tgt := 80) hx hb dX4_readOrder_75 (by decide) (fun c120 => ?_) (fun c120 => ?_)
                · have b121 : kb 2022 v117 2022 := kb_eq c120 kc_2022
                  refine lv_aload_n hx hb dX4_readOrder_80 rfl (lv_at hl 1 rfl) ?_
                  refine lv_dup hx hb dX4_readOrder_81 rfl ?_
                  have hlt122 : ik75 < N := xQ_lt hk0 (ne_4000 (hw116.2.symm.trans c120) (by decide +kernel))
                  have b123 : kb 0 gv76 399 := kb_pos1 hlt122 hN4 hg77
                  refine va_get (D := D) (ci := 4) (v := .int (f86 1604)) (C := RX4) (T := TX4) (N := 7) hx hb hg inC4 hown hK hP 50 rfl rfl 4 (by decide) (hg _ wt2_69) (fun _ h9 => h9) rfl dX4_readOrder_82 ?_
                  refine k_top (z := gv76) ((eE89.1 1604 rfl).trans egv76.symm) ?_
                  refine lv_iconst (v := 1) hx hb dX4_readOrder_85 (by decide) ?_
                  refine lv_iadd hx hb dX4_readOrder_86 ?_
                  refine lv_topi (fun t124 et124 => ?_)
                  have b125 : kb 1 t124 400 := kb_eq et124 (kb_add b123 kc_1 (by decide) (by decide))
                  have qt124 : t124.toInt = gv76.toInt + 1 := by rw [et124]; exact kt_addc b123 kc_1 (by decide) (by decide)
                  have hg126 : t124.toInt = ((ik75 + 1 : Nat) : Int) := by rw [qt124, hg77]; omega
                  refine va_put (D := D) (ci := 4) (v := .int t124) (ty := .int) (C := RX4) (T := TX4) (N := 7) hx hb hg inC4 tyX4 tyX4_ok nmX4 hown hK hP hD hS 50 rfl rfl 4 (by decide) (hg _ wt2_69) (fun _ h9 => h9) rfl (by decide +kernel) rfl rfl (Nat.le_of_ble_eq_true rfl) dX4_readOrder_87 (fun H locs hP hD hS => ?_)
                  have hP : va_P D vwCl (xX K r (upd f86 1604 t124) a87 g88 tx) H := hP
                  have hD : va_D A (xX K r (upd f86 1604 t124) a87 g88 tx) := hD
                  refine k_gen (P := fun z => va_P D vwCl (xX K r z a87 g88 tx) H ∧ va_D A (xX K r z a87 g88 tx) ∧ (xI z a87) ∧ (gOK K g88.2 tt) ∧ (xEk ([1604, 1605, 1632, 1637], [52, 53, 54, 55], []) f a g z a87 g88) ∧ (xQ z a87 N ob T pl)) (upd f86 1604 t124) ⟨hP, hD, (xI_f hI (fI_st hI.1 1604 (kb_any _) (by decide) (by decide))), hG, (xEk_f hE rfl), (xQ_f hk0 (by decide) (by decide))⟩ (fun f_127 ef_127 hq => ?_)
                  obtain ⟨hP, hD, hI, hG, hE, hk0⟩ := hq
                  refine lv_aload_n hx hb dX4_readOrder_90 rfl (lv_at hl 1 rfl) ?_
                  refine lv_iconst (v := 0) hx hb dX4_readOrder_91 (by decide) ?_
                  refine kIG.callW (As := [.int 0]) (rest := []) ⟨hx, hb, hml, hown, hg⟩ ((y_allSum 8) l r f_127 a87 g88 tx tt hT hI hG 0 (kb_w kc_0 (by decide) (by decide)) N (ik75 + 1) (nk75) (sk75) ob T pl hk0 (by rw [(show f_127 1604 = t124 from by rw [← ef_127]; rfl)]; exact hg126) hlt122 ⟨(by rw [((show f_127 1605 = f86 1605 from by rw [← ef_127]; rfl).trans ((eE89.1 1605 rfl).trans ez79.symm))]; exact hzz79), h3k75.2⟩ ⟨(by show (f_127 1637).toInt = ((sk75 : Nat) : Int); rw [((show f_127 1637 = f86 1637 from by rw [← ef_127]; rfl).trans ((eE89.1 1637 rfl).trans ezs81.symm))]; exact hzzs81), (by omega)⟩ (by decide +kernel)) (cwV 1 hg (kgV wt4_6 wt4_8 wp1_13 wt1_7 wt4_9) rfl rfl rfl (by decide +kernel) ⟨by decide, by decide⟩) hV hK hP hD hS hA (50) 4 rfl rfl rfl hl.1 rfl (Nat.le_of_ble_eq_true rfl) dX4_readOrder_92 ⟨Nat.le_refl _, Nat.le_refl _⟩ (fun v129 u130 H locs hw128 hP hD hS => ?_)
                  obtain ⟨f131, a132, g133⟩ := u130
                  have hP : va_P D vwCl (xX K r f131 a132 g133 tx) H := hP
                  have hD : va_D A (xX K r f131 a132 g133 tx) := hD
                  have hI : xI f131 a132 := hw128.2.1
                  have hG : gOK K g133.2 tt := hw128.2.2.1
                  have eE134 : xEk ([1604, 1605, 1637], [55], []) f_127 a87 g88 f131 a132 g133 := hw128.2.2.2.1
                  have hE : xEk ([1604, 1605, 1632, 1637], [52, 53, 54, 55], []) f a g f131 a132 g133 := xEk_tr hE (xEk_w (by decide +kernel) eE134)
                  have hk0 : xQ f131 a132 N ob T pl := xQ_c hk0 (eE134.1 1603 rfl) (eE134.1 1606 rfl) ⟨eE134.2.1 56 rfl, eE134.2.1 57 rfl⟩
                  obtain ⟨ik135, nk135, hgk135, hlek135, hNk135, hck135⟩ := hw128.2.2.2.2
                  rcases hck135 with ⟨hvk135, h3k135, hltk135, hGk135, hcdk135⟩ | ⟨hvk135, hGk135⟩
                  · refine k_top (z := 1) hvk135 ?_
                    obtain ⟨gv136, egv136⟩ : ∃ z : Int32, z = f131 1604 := ⟨_, rfl⟩
                    have hg137 : gv136.toInt = ((ik135 : Nat) : Int) := by rw [egv136]; exact hgk135
                    have b138 : kb 0 gv136 400 := kb_pos hNk135 hN4 hg137
                    obtain ⟨z139, ez139⟩ : ∃ z : Int32, z = f131 1605 := ⟨_, rfl⟩
                    have hzz139 : z139.toInt = ((nk135 : Nat) : Int) := by rw [ez139]; exact h3k135.1
                    have b140 : kb 0 z139 50 := ⟨by omega, by have w1 := h3k135.2; omega⟩
                    obtain ⟨sk135, wk135, hzk135, hlk135, hqk135, hek135, hrk135⟩ := hcdk135
                    obtain ⟨zs141, ezs141⟩ : ∃ z : Int32, z = f131 1637 := ⟨_, rfl⟩
                    have hzzs141 : zs141.toInt = ((sk135 : Nat) : Int) := by rw [ezs141]; exact hzk135
                    refine lv_if_ne (tgt := 100) hx hb dX4_readOrder_95 (by decide) (fun c142 => ?_) (fun c142 => ?_)
                    · refine lv_aload_n hx hb dX4_readOrder_100 rfl (lv_at hl 1 rfl) ?_
                      refine va_get (D := D) (ci := 4) (v := .ref (r 51)) (C := RX4) (T := TX4) (N := 7) hx hb hg inC4 hown hK hP 50 rfl rfl 0 (by decide) (hg _ wt2_64) (fun _ h9 => h9) rfl dX4_readOrder_101 ?_
                      refine lv_iconst (v := 1) hx hb dX4_readOrder_104 (by decide) ?_
                      refine kVG.callW (As := [.int 1]) (rest := []) ⟨hx, hb, hml, hown, hg⟩ (y_close l r f131 a132 g133 tx tt hT hI hG 1 (kb_w kc_1 (by decide) (by decide)) (cn + 1) (sk135) (by show (f131 1632).toInt = ((cn + 1 : Nat) : Int); rw [((eE134.1 1632 rfl).trans ((show f_127 1632 = f86 1632 from by rw [← ef_127]; rfl).trans ((eE89.1 1632 rfl).trans ((eE74.1 1632 rfl).trans ((show f_33 1632 = f22 1632 from by rw [← ef_33]; rfl).trans ez26.symm)))))]; exact hCz26) ⟨Nat.le_add_left 1 cn, by omega⟩ (by show (f131 1637).toInt = ((sk135 : Nat) : Int); rw [ezs141.symm]; exact hzzs141)) (cwV 1 hg (kgV wt4_30 wt4_31 wt4_32 wt1_8 wt4_33) rfl rfl rfl (by decide +kernel) ⟨by decide, by decide⟩) hV hK hP hD hS hA (51) 10 rfl rfl rfl hl.1 rfl (Nat.le_of_ble_eq_true rfl) dX4_readOrder_105 ⟨Nat.le_refl _, Nat.le_refl _⟩ (fun u145 H locs hw143 hP hD hS => ?_)
                      obtain ⟨f146, a147, g148⟩ := u145
                      have hP : va_P D vwCl (xX K r f146 a147 g148 tx) H := hP
                      have hD : va_D A (xX K r f146 a147 g148 tx) := hD
                      have hI : xI f146 a147 := hw143.1
                      have hG : gOK K g148.2 tt := hw143.2.1
                      have eE149 : xEk ([], [54], []) f131 a132 g133 f146 a147 g148 := hw143.2.2.1
                      have hE : xEk ([1604, 1605, 1632, 1637], [52, 53, 54, 55], []) f a g f146 a147 g148 := xEk_tr hE (xEk_w (by decide +kernel) eE149)
                      have hk0 : xQ f146 a147 N ob T pl := xQ_c hk0 (eE149.1 1603 rfl) (eE149.1 1606 rfl) ⟨eE149.2.1 56 rfl, eE149.2.1 57 rfl⟩
                      have hcl150 : (a147 54 (3 * cn + 2)).toInt = ((sk135 : Nat) : Int) ∧ ∀ p, ¬ p = 3 * cn + 2 → a147 54 p = a132 54 p := by
                        have w2 : (1 : Int32).toInt = 1 := (by decide +kernel)
                        have w1 : 3 * (cn + 1 - 1) + (1 : Int32).toInt.toNat + 1 = 3 * cn + 2 := by rw [w2]; omega
                        have w3 := hw143.2.2.2
                        rw [w1] at w3
                        exact w3
                      refine lv_aload_n hx hb dX4_readOrder_108 rfl (lv_at hl 1 rfl) ?_
                      refine kIG.callW (As := []) (rest := []) ⟨hx, hb, hml, hown, hg⟩ (y_readTimes l r f146 a147 g148 tx tt hT hI hG   N (ik135) (cn + 1) ob T pl hk0 (by rw [((eE149.1 1604 rfl).trans egv136.symm)]; exact hg137) hNk135 (by show (f146 1632).toInt = ((cn + 1 : Nat) : Int); rw [((eE149.1 1632 rfl).trans ((eE134.1 1632 rfl).trans ((show f_127 1632 = f86 1632 from by rw [← ef_127]; rfl).trans ((eE89.1 1632 rfl).trans ((eE74.1 1632 rfl).trans ((show f_33 1632 = f22 1632 from by rw [← ef_33]; rfl).trans ez26.symm))))))]; exact hCz26) ⟨Nat.le_add_left 1 cn, by omega⟩ ((congrFun ((((eE149.2.1 53 rfl).trans (eE134.2.1 53 rfl)).trans (eE89.2.1 53 rfl)).trans (eE74.2.1 53 rfl)) cn).trans hw19.2.2.2.2.2.2.1)) (cwV 0 hg (kgV wt4_34 wt4_36 wp2_2 wt1_7 wt4_37) rfl rfl rfl (by decide +kernel) ⟨by decide, by decide⟩) hV hK hP hD hS hA (50) 4 rfl rfl rfl hl.1 rfl (Nat.le_of_ble_eq_true rfl) dX4_readOrder_109 ⟨Nat.le_refl _, Nat.le_refl _⟩ (fun v152 u153 H locs hw151 hP hD hS => ?_)
                      obtain ⟨f154, a155, g156⟩ := u153
                      have hP : va_P D vwCl (xX K r f154 a155 g156 tx) H := hP
                      have hD : va_D A (xX K r f154 a155 g156 tx) := hD
                      have hI : xI f154 a155 := hw151.2.1
                      have hG : gOK K g156.2 tt := hw151.2.2.1
                      have eE157 : xEk ([1604], [53], []) f146 a147 g148 f154 a155 g156 := hw151.2.2.2.1
                      have hE : xEk ([1604, 1605, 1632, 1637], [52, 53, 54, 55], []) f a g f154 a155 g156 := xEk_tr hE (xEk_w (by decide +kernel) eE157)
                      have hk0 : xQ f154 a155 N ob T pl := xQ_c hk0 (eE157.1 1603 rfl) (eE157.1 1606 rfl) ⟨eE157.2.1 56 rfl, eE157.2.1 57 rfl⟩
                      obtain ⟨ik158, hgk158, hlek158, hNk158, hck158⟩ := hw151.2.2.2.2
                      rcases hck158 with ⟨hvk158, hGk158, hmk158, hok158⟩ | ⟨hvk158, hGk158⟩
                      · refine k_top (z := 1) hvk158 ?_
                        obtain ⟨gv159, egv159⟩ : ∃ z : Int32, z = f154 1604 := ⟨_, rfl⟩
                        have hg160 : gv159.toInt = ((ik158 : Nat) : Int) := by rw [egv159]; exact hgk158
                        have b161 : kb 0 gv159 400 := kb_pos hNk158 hN4 hg160
                        obtain ⟨tmk158, htk158, huk158⟩ := hmk158
                        exact kI_ret (v := 1) hx hb hr hlocks (by decide +kernel) hK hS dX4_readOrder_112 (f154, a155, g156) hP hD ⟨(kb_w kc_1 (by decide) (by decide)), hI, hG, hE, ⟨ik158, nk135, (by show (f154 1604).toInt = ((ik158 : Nat) : Int); rw [egv159.symm]; exact hg160), (Nat.le_trans (Nat.le_trans (Nat.le_succ_of_le (Nat.le_trans (Nat.le_succ_of_le (Nat.le_refl i)) hlek75)) hlek135) hlek158), hNk158, Or.inl ⟨rfl, ⟨(by show (f154 1605).toInt = ((nk135 : Nat) : Int); rw [((eE157.1 1605 rfl).trans ((eE149.1 1605 rfl).trans ez139.symm))]; exact hzz139), h3k135.2⟩, (by show (f154 1632).toInt = ((cn + 1 : Nat) : Int); rw [((eE157.1 1632 rfl).trans ((eE149.1 1632 rfl).trans ((eE134.1 1632 rfl).trans ((show f_127 1632 = f86 1632 from by rw [← ef_127]; rfl).trans ((eE89.1 1632 rfl).trans ((eE74.1 1632 rfl).trans ((show f_33 1632 = f22 1632 from by rw [← ef_33]; rfl).trans ez26.symm)))))))]; exact hCz26), (fun r h => (pi_13a (c_eq (k := 2018) (by have w1 := ((kb_eq hw3.2.symm (⟨by have w1 := qt7; have w2 := (b115).1; omega, by have w1 := qt7; have w2 := (b115).2; omega⟩ : kb 2018 v4 2018))).1; have w2 := ((kb_eq hw3.2.symm (⟨by have w1 := qt7; have w2 := (b115).1; omega, by have w1 := qt7; have w2 := (b115).2; omega⟩ : kb 2018 v4 2018))).2; omega) (by decide +kernel)) hGk75 (hw116.2.symm.trans c120) (pi_17 hGk135 (hGk158 _ _ h)))), ⟨sk75, sk135, wk75, wk135, tmk158, (by show (f154 1637).toInt = ((sk135 : Nat) : Int); rw [((eE157.1 1637 rfl).trans ((eE149.1 1637 rfl).trans ezs141.symm))]; exact hzzs141), (Nat.le_of_lt hrk75.1), (Nat.le_of_lt hrk135.1), (by have w1 := hlk75; have w2 := hlk135; omega), (fun p hp => ((congrFun ((eE157.2.1 55 rfl).trans (eE149.2.1 55 rfl)) p).trans ((hqk135 p (by have w1 := hrk75.1; omega)).trans (congrFun (eE89.2.1 55 rfl) p))).trans ((hqk75 p hp).trans (congrFun (eE25.2.1 55 rfl) p))), (fun k hk => ⟨(congrFun (((((eE157.2.1 52 rfl).trans (eE149.2.1 52 rfl)).trans (eE134.2.1 52 rfl)).trans (eE89.2.1 52 rfl)).trans (eE74.2.1 52 rfl)) k).trans (hw19.2.2.2.2.2.2.2 k hk).1, ((congrFun (rfl : a155 53 = a155 53) k).trans ((hok158 k hk).trans ((congrFun ((((eE149.2.1 53 rfl).trans (eE134.2.1 53 rfl)).trans (eE89.2.1 53 rfl)).trans (eE74.2.1 53 rfl)) k).trans (hw19.2.2.2.2.2.2.2 k hk).2)))⟩), ((congrArg Int32.toInt ((congrFun (((((eE157.2.1 52 rfl).trans (eE149.2.1 52 rfl)).trans (eE134.2.1 52 rfl)).trans (eE89.2.1 52 rfl)).trans (eE74.2.1 52 rfl)) cn).trans hw19.2.2.2.2.2.1)).trans (by rw [hb_t hp7]; have w1 := qt7; rw [hw3.2] at w1; exact w1)), ((congrFun (rfl : a155 53 = a155 53) cn).trans huk158), (fun k k1 k2 => (congrFun (eE157.2.1 54 rfl) k).trans ((hcl150.2 k k2).trans ((congrFun (eE134.2.1 54 rfl) k).trans ((hcl90.2 k k1).trans (congrFun ((eE74.2.1 54 rfl).trans (eE25.2.1 54 rfl)) k))))), ((congrArg Int32.toInt ((congrFun (eE157.2.1 54 rfl) _).trans ((hcl150.2 _ (by omega)).trans (congrFun (eE134.2.1 54 rfl) _)))).trans hcl90.1), ((congrArg Int32.toInt (congrFun (eE157.2.1 54 rfl) _)).trans hcl150.1), (Or.inr (rn_w (rn_cg hrk75 (fun p _ q => (congrFun ((eE157.2.1 55 rfl).trans (eE149.2.1 55 rfl)) p).trans ((hqk135 p q).trans (congrFun (eE89.2.1 55 rfl) p)))) (by decide))), (Or.inr (rn_w (rn_cg hrk135 (fun p _ _ => (congrFun ((eE157.2.1 55 rfl).trans (eE149.2.1 55 rfl)) p))) (by decide))), fun j v3 h => ce_s hp7 (c_eq (k := 2018) (by have w1 := ((kb_eq hw3.2.symm (⟨by have w1 := qt7; have w2 := (b115).1; omega, by have w1 := qt7; have w2 := (b115).2; omega⟩ : kb 2018 v4 2018))).1; have w2 := ((kb_eq hw3.2.symm (⟨by have w1 := qt7; have w2 := (b115).1; omega, by have w1 := qt7; have w2 := (b115).2; omega⟩ : kb 2018 v4 2018))).2; omega) (by decide +kernel)) hek75 (hw116.2.symm.trans c120) hek135 htk158 h⟩⟩⟩⟩
                      · refine k_top (z := 0) hvk158 ?_
                        obtain ⟨gv162, egv162⟩ : ∃ z : Int32, z = f154 1604 := ⟨_, rfl⟩
                        have hg163 : gv162.toInt = ((ik158 : Nat) : Int) := by rw [egv162]; exact hgk158
                        have b164 : kb 0 gv162 400 := kb_pos hNk158 hN4 hg163
                        exact kI_ret (v := 0) hx hb hr hlocks (by decide +kernel) hK hS dX4_readOrder_112 (f154, a155, g156) hP hD ⟨(kb_w kc_0 (by decide) (by decide)), hI, hG, hE, ⟨ik158, 0, (by show (f154 1604).toInt = ((ik158 : Nat) : Int); rw [egv162.symm]; exact hg163), (Nat.le_trans (Nat.le_trans (Nat.le_succ_of_le (Nat.le_trans (Nat.le_succ_of_le (Nat.le_refl i)) hlek75)) hlek135) hlek158), hNk158, Or.inr ⟨rfl, (pi_13a (c_eq (k := 2018) (by have w1 := ((kb_eq hw3.2.symm (⟨by have w1 := qt7; have w2 := (b115).1; omega, by have w1 := qt7; have w2 := (b115).2; omega⟩ : kb 2018 v4 2018))).1; have w2 := ((kb_eq hw3.2.symm (⟨by have w1 := qt7; have w2 := (b115).1; omega, by have w1 := qt7; have w2 := (b115).2; omega⟩ : kb 2018 v4 2018))).2; omega) (by decide +kernel)) hGk75 (hw116.2.symm.trans c120) (pi_17 hGk135 (hGk158 _)))⟩⟩⟩
                    · exact kb_dj c142 kc_1 kc_0 (by decide)
                  · refine k_top (z := 0) hvk135 ?_
                    obtain ⟨gv165, egv165⟩ : ∃ z : Int32, z = f131 1604 := ⟨_, rfl⟩
                    have hg166 : gv165.toInt = ((ik135 : Nat) : Int) := by rw [egv165]; exact hgk135
                    have b167 : kb 0 gv165 400 := kb_pos hNk135 hN4 hg166
                    refine lv_if_ne (tgt := 100) hx hb dX4_readOrder_95 (by decide) (fun c168 => ?_) (fun c168 => ?_)
                    · exact kb_nsame c168 kc_0 kc_0
                    · refine lv_iconst (v := 0) hx hb dX4_readOrder_98 (by decide) ?_
                      exact kI_ret (v := 0) hx hb hr hlocks (by decide +kernel) hK hS dX4_readOrder_99 (f131, a132, g133) hP hD ⟨(kb_w kc_0 (by decide) (by decide)), hI, hG, hE, ⟨ik135, 0, (by show (f131 1604).toInt = ((ik135 : Nat) : Int); rw [egv165.symm]; exact hg166), (Nat.le_trans (Nat.le_succ_of_le (Nat.le_trans (Nat.le_succ_of_le (Nat.le_refl i)) hlek75)) hlek135), hNk135, Or.inr ⟨rfl, (pi_13a (c_eq (k := 2018) (by have w1 := ((kb_eq hw3.2.symm (⟨by have w1 := qt7; have w2 := (b115).1; omega, by have w1 := qt7; have w2 := (b115).2; omega⟩ : kb 2018 v4 2018))).1; have w2 := ((kb_eq hw3.2.symm (⟨by have w1 := qt7; have w2 := (b115).1; omega, by have w1 := qt7; have w2 := (b115).2; omega⟩ : kb 2018 v4 2018))).2; omega) (by decide +kernel)) hGk75 (hw116.2.symm.trans c120) (pi_17f hGk135))⟩⟩⟩
                · refine lv_iconst (v := 0) hx hb dX4_readOrder_78 (by decide) ?_
                  exact kI_ret (v := 0) hx hb hr hlocks (by decide +kernel) hK hS dX4_readOrder_79 (f86, a87, g88) hP hD ⟨(kb_w kc_0 (by decide) (by decide)), hI, hG, hE, ⟨ik75, 0, (by show (f86 1604).toInt = ((ik75 : Nat) : Int); rw [((eE89.1 1604 rfl).trans egv76.symm)]; exact hg77), (Nat.le_trans (Nat.le_succ_of_le (Nat.le_refl i)) hlek75), hNk75, Or.inr ⟨rfl, (pi_13n (c_eq (k := 2018) (by have w1 := ((kb_eq hw3.2.symm (⟨by have w1 := qt7; have w2 := (b115).1; omega, by have w1 := qt7; have w2 := (b115).2; omega⟩ : kb 2018 v4 2018))).1; have w2 := ((kb_eq hw3.2.symm (⟨by have w1 := qt7; have w2 := (b115).1; omega, by have w1 := qt7; have w2 := (b115).2; omega⟩ : kb 2018 v4 2018))).2; omega) (by decide +kernel)) hGk75 (fun q => c120 (hw116.2.trans q)))⟩⟩⟩
            · exact kb_dj c82 kc_1 kc_0 (by decide)
          · refine k_top (z := 0) hvk75 ?_
            obtain ⟨gv169, egv169⟩ : ∃ z : Int32, z = f71 1604 := ⟨_, rfl⟩
            have hg170 : gv169.toInt = ((ik75 : Nat) : Int) := by rw [egv169]; exact hgk75
            have b171 : kb 0 gv169 400 := kb_pos hNk75 hN4 hg170
            refine lv_if_ne (tgt := 56) hx hb dX4_readOrder_51 (by decide) (fun c172 => ?_) (fun c172 => ?_)
            · exact kb_nsame c172 kc_0 kc_0
            · refine lv_iconst (v := 0) hx hb dX4_readOrder_54 (by decide) ?_
              exact kI_ret (v := 0) hx hb hr hlocks (by decide +kernel) hK hS dX4_readOrder_55 (f71, a72, g73) hP hD ⟨(kb_w kc_0 (by decide) (by decide)), hI, hG, hE, ⟨ik75, 0, (by show (f71 1604).toInt = ((ik75 : Nat) : Int); rw [egv169.symm]; exact hg170), (Nat.le_trans (Nat.le_succ_of_le (Nat.le_refl i)) hlek75), hNk75, Or.inr ⟨rfl, (by have w1 := (kb_eq hw3.2.symm (⟨by have w1 := qt7; have w2 := (b67).1; omega, by have w1 := qt7; have w2 := (b67).2; omega⟩ : kb 2018 v4 2020)); have w2 := w1.1; have w3 := w1.2; by_cases e : T i = 2018; (exact pi_13f e hGk75); exact pi_13b e (y13 ⟨by have w4 : ¬ (T i).toInt = 2018 := (fun z => e (c_eq z (by decide +kernel))); omega, w3⟩) (pi_17f hGk75))⟩⟩⟩
      · exact kb_dj c27 kc_1 kc_0 (by decide)
