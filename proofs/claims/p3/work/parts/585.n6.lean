theorem nt_nt (v : eV) : ntO (ntO v) = v := by
  funext W
  unfold ntO
  cases h : v W with
  | none => rfl
  | some x => show some (1 - (1 - x)) = some x; congr 1; omega
theorem lf_num {o : Bool} {t u : Int32} {n : Nat} (h : kb 0 t 1000) (e : t.toInt = (n : Int)) : lfO o t u = fun _ => some (n : Int) := by
  funext W
  unfold lfO
  rw [if_pos ⟨h.1, h.2⟩, e]
theorem lf_word {o : Bool} {t u : Int32} {n : Nat} (h : ¬ kb 0 t 1000) (e : wIx o t u = n) : lfO o t u = fun W => some (W n) := by
  funext W
  unfold lfO
  rw [if_neg (fun q => h ⟨q.1, q.2⟩), e]
/-! the reference's walk over texts, with values -/
def mV (k : Nat → Int32) (t i : Nat) : Int32 := k (2914 + 400 * t + i)
/-- the tokens of text t of a kept row, as the class numbers them -/
def tQ (k : Nat → Int32) (t : Nat) (T : Nat → Int32) : Prop := ∀ i, tOk (mC k t i) (mV k t i) (T i)
theorem tq_y {k : Nat → Int32} {t i : Nat} {T : Nat → Int32} (h : tQ k t T) {x y : Int32} (hx : mpOk x = true) (hy : y = mpT x) (e : T i = y) : mC k t i = x := (tk_iff (h i) hx).mpr (e.trans hy)
theorem tq_n {k : Nat → Int32} {t i : Nat} {T : Nat → Int32} (h : tQ k t T) {x y : Int32} (hx : mpOk x = true) (hy : y = mpT x) (e : ¬ T i = y) : ¬ mC k t i = x := fun q => e (((tk_iff (h i) hx).mp q).trans hy.symm)
/-- the words' numbers, as the reference asks them: orders -/
def oQ (W : Nat → Int) (f : Nat → Int32) (k : Nat → Int32) : Prop := kK k ∧ W 0 = (k 22).toInt ∧ W 1 = (f 27).toInt ∧ W 2 = (f 28).toInt ∧ W 3 = (pop (upM k).toInt.toNat : Int) ∧ (∀ p, p < 10 → W (4 + p) = if (p : Int) < (k 102).toInt then (k (0 + p)).toInt else -1) ∧ (∀ b, b < 6 → W (14 + b) = if (b : Int) < (k 103).toInt then (k (10 + b)).toInt else -1) ∧ (∀ b, b < 6 → W (20 + b) = if (b : Int) < (k 103).toInt then (k (16 + b)).toInt else -1)
def wQ (ob : Bool) (W : Nat → Int) (f : Nat → Int32) (a : Nat → Nat → Int32) : Prop := wB W ∧ (ob = false → ∀ c, 9 ≤ c → c ≤ 18 → (a 26 (c - 9)).toInt = W (wIx false (mpL.getD c 0) 0)) ∧ (ob = true → oQ W f (a 2))
theorem wQ_fE {ob : Bool} {W : Nat → Int} {L : List Nat} {f f1 : Nat → Int32} {a : Nat → Nat → Int32} (h : fE L f f1) (q : wQ ob W f a) (n1 : L.contains 27 = false) (n2 : L.contains 28 = false) : wQ ob W f1 a := by
  refine ⟨q.1, q.2.1, fun ho => ?_⟩
  have z := q.2.2 ho
  unfold oQ at *
  rw [h 27 n1, h 28 n2]
  exact z
/-- a sum's answer: live, and not broken ahead: its value, or broken and 0; else 0 -/
def mRs (lv b0 : Int32) (r : Option Int) (b1 : Int32) (x : Int) : Prop := (lv = 1 ∧ b0 = 0 ∧ ((r = some x ∧ b1 = 0 ∧ oBp 0 x) ∨ (r = none ∧ b1 = 1 ∧ x = 0))) ∨ (¬ (lv = 1 ∧ b0 = 0) ∧ b1 = b0 ∧ x = 0)
def mTv (lv b0 : Int32) (r : Option Int) (b1 v : Int32) : Prop := (lv = 1 ∧ b0 = 0 ∧ ((r = some v.toInt ∧ b1 = 0) ∨ (r = none ∧ b1 = 1))) ∨ (¬ (lv = 1 ∧ b0 = 0) ∧ b1 = b0)
/-- what bounded does -/
def bdR (lv b0 : Int32) (m : Int) (b1 : Int32) (r : Int) : Prop := b1 = (if lv = 1 ∧ (m < -1000000000 ∨ 1000000000 < m) then 1 else b0) ∧ r = (if b1 = 0 then m else 0)
section MR
variable {lv b0 b1 b2 b3 v w l' : Int32} {X Z r : Option Int} {y z m x : Int}
theorem i1n0 : ¬ (1 : Int32) = 0 := by decide +kernel
theorem mRs_o (h : mRs lv b0 r b1 x) : oBd x := by
  rcases h with ⟨_, _, ⟨_, _, o⟩ | ⟨_, _, o⟩⟩ | ⟨_, _, o⟩
  · exact oBp_o o (by decide)
  · rw [o]; unfold oBd; omega
  · rw [o]; unfold oBd; omega
/-- one more piece behind, by an operation whose number is bounded -/
theorem m_jn {op : Nat} (h1 : mRs lv b0 X b1 y) (h2 : mRs lv b1 Z b2 z) (hm : X = some y → Z = some z → jnV op y z = bnd m) (h0 : y = 0 → z = 0 → m = 0) (hb : bdR lv b2 m b3 x) : mRs lv b0 (X.bind fun p => Z.bind fun q => jnV op p q) b3 x := by
  obtain ⟨hb1, hb2⟩ := hb
  rcases h1 with ⟨l1, c1, ⟨x1, d1, o1⟩ | ⟨x1, d1, y1⟩⟩ | ⟨n1, d1, y1⟩
  · rcases h2 with ⟨_, _, ⟨x2, d2, o2⟩ | ⟨x2, d2, z2⟩⟩ | ⟨n2, _⟩
    · refine Or.inl ⟨l1, c1, ?_⟩
      have e : (X.bind fun p => Z.bind fun q => jnV op p q) = bnd m := by rw [x1, x2]; exact hm x1 x2
      rw [e]
      by_cases q : m < -1000000000 ∨ 1000000000 < m
      · rw [if_pos ⟨l1, q⟩] at hb1
        rw [hb1, if_neg i1n0] at hb2
        exact Or.inr ⟨by unfold bnd; rw [if_pos q], hb1, hb2⟩
      · rw [if_neg (fun h => q h.2), d2] at hb1
        rw [hb1, if_pos rfl] at hb2
        refine Or.inl ⟨by unfold bnd; rw [if_neg q, hb2], hb1, by rw [hb2]; unfold oBp; omega⟩
    · refine Or.inl ⟨l1, c1, Or.inr ⟨by rw [x1, x2]; rfl, ?_⟩⟩
      have e3 : b3 = 1 := by
        rw [hb1]
        split
        · rfl
        · exact d2
      rw [e3, if_neg i1n0] at hb2
      exact ⟨e3, hb2⟩
    · exact absurd ⟨l1, d1⟩ n2
  · rcases h2 with ⟨_, c2, _⟩ | ⟨_, d2, z2⟩
    · rw [d1] at c2; exact absurd c2 i1n0
    · refine Or.inl ⟨l1, c1, Or.inr ⟨by rw [x1]; rfl, ?_⟩⟩
      have e3 : b3 = 1 := by
        rw [hb1]
        split
        · rfl
        · rw [d2]; exact d1
      rw [e3, if_neg i1n0] at hb2
      exact ⟨e3, hb2⟩
  · rcases h2 with ⟨l2, c2, _⟩ | ⟨_, d2, z2⟩
    · exact absurd ⟨l2, by rw [← d1]; exact c2⟩ n1
    · have hm0 := h0 y1 z2
      rw [hm0] at hb1 hb2
      rw [if_neg (fun h => by have := h.2; omega)] at hb1
      refine Or.inr ⟨n1, by rw [hb1, d2, d1], ?_⟩
      rw [hb2]
      split <;> rfl
/-- division: by 0 it breaks, if it is live -/
theorem m_jd {op : Nat} {b2' : Int32} {z' : Int} (h1 : mRs lv b0 X b1 y) (h2 : mRs lv b1 Z b2 z) (hz : (z = 0 ∧ z' = 1 ∧ b2' = (if b2 = 0 ∧ ¬ lv = 1 then 0 else 1)) ∨ (¬ z = 0 ∧ z' = z ∧ b2' = b2)) (hl : lv = 0 ∨ lv = 1) (hb2' : b2 = 0 ∨ b2 = 1) (hm : ¬ z = 0 → jnV op y z = bnd m) (hn : z = 0 → jnV op y z = none) (h0 : y = 0 → m = 0) (hmb : oBp 0 y → oBp 0 m) (hb : bdR lv b2' m b3 x) : mRs lv b0 (X.bind fun p => Z.bind fun q => jnV op p q) b3 x := by
  obtain ⟨hb1, hb2⟩ := hb
  rcases h1 with ⟨l1, c1, ⟨x1, d1, o1⟩ | ⟨x1, d1, y1⟩⟩ | ⟨n1, d1, y1⟩
  · have om := hmb o1
    have nq : ¬ (lv = 1 ∧ (m < -1000000000 ∨ 1000000000 < m)) := fun h => by have := h.2; unfold oBp at om; omega
    rw [if_neg nq] at hb1
    rcases h2 with ⟨_, _, ⟨x2, d2, o2⟩ | ⟨x2, d2, z2⟩⟩ | ⟨n2, _⟩
    · refine Or.inl ⟨l1, c1, ?_⟩
      rw [x1, x2]
      show (jnV op y z = some x ∧ _) ∨ (jnV op y z = none ∧ _)
      rcases hz with ⟨z1, z2, z3⟩ | ⟨z1, z2, z3⟩
      · rw [if_neg (fun h => h.2 l1)] at z3
        rw [z3] at hb1
        rw [hb1, if_neg i1n0] at hb2
        exact Or.inr ⟨hn z1, hb1, hb2⟩
      · rw [z3, d2] at hb1
        rw [hb1, if_pos rfl] at hb2
        refine Or.inl ⟨?_, hb1, by rw [hb2]; exact om⟩
        rw [hm z1, hb2]
        unfold bnd
        rw [if_neg (fun h => nq ⟨l1, h⟩)]
    · refine Or.inl ⟨l1, c1, Or.inr ⟨by rw [x1, x2]; rfl, ?_⟩⟩
      have e3 : b3 = 1 := by
        rcases hz with ⟨_, _, z3⟩ | ⟨z1, _⟩
        · rw [if_neg (fun h => h.2 l1)] at z3; rw [hb1, z3]
        · exact absurd z2 z1
      rw [e3, if_neg i1n0] at hb2
      exact ⟨e3, hb2⟩
    · exact absurd ⟨l1, d1⟩ n2
  · have m0 := h0 y1
    have nq : ¬ (lv = 1 ∧ (m < -1000000000 ∨ 1000000000 < m)) := fun h => by have := h.2; omega
    rw [if_neg nq] at hb1
    rcases h2 with ⟨_, c2, _⟩ | ⟨_, d2, z2⟩
    · rw [d1] at c2; exact absurd c2 i1n0
    · refine Or.inl ⟨l1, c1, Or.inr ⟨by rw [x1]; rfl, ?_⟩⟩
      have e3 : b3 = 1 := by
        rcases hz with ⟨_, _, z3⟩ | ⟨z1, _⟩
        · rw [if_neg (fun h => h.2 l1)] at z3; rw [hb1, z3]
        · exact absurd z2 z1
      rw [e3, if_neg i1n0] at hb2
      exact ⟨e3, hb2⟩
  · have m0 := h0 y1
    have nq : ¬ (lv = 1 ∧ (m < -1000000000 ∨ 1000000000 < m)) := fun h => by have := h.2; omega
    rw [if_neg nq] at hb1
    rcases h2 with ⟨l2, c2, _⟩ | ⟨_, d2, z2⟩
    · exact absurd ⟨l2, by rw [← d1]; exact c2⟩ n1
    · have e3 : b3 = b0 := by
        rw [hb1]
        rcases hz with ⟨_, _, z3⟩ | ⟨z1, _⟩
        · rw [z3, ← d1, ← d2]
          by_cases q : b2 = 0 ∧ ¬ lv = 1
          · rw [if_pos q]; exact q.1.symm
          · rw [if_neg q]
            rcases hb2' with h | h
            · exact absurd ⟨by (by_cases q2 : lv = 1; exact q2; exact absurd ⟨h, q2⟩ q), by rw [← d1, ← d2]; exact h⟩ n1
            · exact h.symm
        · exact absurd z2 z1
      refine Or.inr ⟨n1, e3, ?_⟩
      rw [hb2, m0]
      split <;> rfl
theorem m_or (h1 : mTv lv b0 X b1 v) (h2 : mTv l' b1 Z b2 w) (hl : l' = (if lv = 1 ∧ v = 0 then 1 else 0)) (hv : v = 0 ∨ v = 1) {v' : Int32} (e : v' = (if v = 0 then w else v)) : mTv lv b0 (X.bind fun x => if x = 0 then Z else some x) b2 v' := by
  rcases h1 with ⟨l1, c1, ⟨x1, d1⟩ | ⟨x1, d1⟩⟩ | ⟨n1, d1⟩
  · rcases hv with hv | hv
    · rw [if_pos ⟨l1, hv⟩] at hl
      rw [if_pos hv] at e
      have z0 : v.toInt = 0 := by rw [hv]; decide +kernel
      rcases h2 with ⟨_, _, ⟨x2, d2⟩ | ⟨x2, d2⟩⟩ | ⟨n2, _⟩
      · exact Or.inl ⟨l1, c1, Or.inl ⟨by rw [x1]; show (if v.toInt = 0 then Z else _) = _; rw [if_pos z0, x2, e], d2⟩⟩
      · exact Or.inl ⟨l1, c1, Or.inr ⟨by rw [x1]; show (if v.toInt = 0 then Z else _) = _; rw [if_pos z0, x2], d2⟩⟩
      · exact absurd ⟨hl, d1⟩ n2
    · have nv : ¬ v = 0 := by rw [hv]; exact i1n0
      rw [if_neg (fun h => nv h.2)] at hl
      rw [if_neg nv] at e
      have z0 : ¬ v.toInt = 0 := by rw [hv]; decide +kernel
      rcases h2 with ⟨l2, _⟩ | ⟨_, d2⟩
      · rw [hl] at l2; exact absurd l2 (by decide +kernel)
      · exact Or.inl ⟨l1, c1, Or.inl ⟨by rw [x1]; show (if v.toInt = 0 then Z else _) = _; rw [if_neg z0, e], d2.trans d1⟩⟩
  · rcases h2 with ⟨_, c2, _⟩ | ⟨_, d2⟩
    · rw [d1] at c2; exact absurd c2 i1n0
    · exact Or.inl ⟨l1, c1, Or.inr ⟨by rw [x1]; rfl, d2.trans d1⟩⟩
  · rcases h2 with ⟨l2, c2, _⟩ | ⟨_, d2⟩
    · exfalso
      rw [l2] at hl
      by_cases q : lv = 1 ∧ v = 0
      · exact n1 ⟨q.1, by rw [← d1]; exact c2⟩
      · rw [if_neg q] at hl; exact absurd hl i1n0
    · exact Or.inr ⟨n1, d2.trans d1⟩
theorem m_and (h1 : mTv lv b0 X b1 v) (h2 : mTv l' b1 Z b2 w) (hl : l' = (if lv = 1 ∧ ¬ v = 0 then 1 else 0)) (hv : v = 0 ∨ v = 1) {v' : Int32} (e : v' = (if v = 0 then v else w)) : mTv lv b0 (X.bind fun x => if x = 0 then some x else Z) b2 v' := by
  rcases h1 with ⟨l1, c1, ⟨x1, d1⟩ | ⟨x1, d1⟩⟩ | ⟨n1, d1⟩
  · rcases hv with hv | hv
    · rw [if_neg (fun h => h.2 hv)] at hl
      rw [if_pos hv] at e
      have z0 : v.toInt = 0 := by rw [hv]; decide +kernel
      rcases h2 with ⟨l2, _⟩ | ⟨_, d2⟩
      · rw [hl] at l2; exact absurd l2 (by decide +kernel)
      · exact Or.inl ⟨l1, c1, Or.inl ⟨by rw [x1]; show (if v.toInt = 0 then _ else Z) = _; rw [if_pos z0, e], d2.trans d1⟩⟩
    · have nv : ¬ v = 0 := by rw [hv]; exact i1n0
      rw [if_pos ⟨l1, nv⟩] at hl
      rw [if_neg nv] at e
      have z0 : ¬ v.toInt = 0 := by rw [hv]; decide +kernel
      rcases h2 with ⟨_, _, ⟨x2, d2⟩ | ⟨x2, d2⟩⟩ | ⟨n2, _⟩
      · exact Or.inl ⟨l1, c1, Or.inl ⟨by rw [x1]; show (if v.toInt = 0 then _ else Z) = _; rw [if_neg z0, x2, e], d2⟩⟩
      · exact Or.inl ⟨l1, c1, Or.inr ⟨by rw [x1]; show (if v.toInt = 0 then _ else Z) = _; rw [if_neg z0, x2], d2⟩⟩
      · exact absurd ⟨hl, d1⟩ n2
  · rcases h2 with ⟨_, c2, _⟩ | ⟨_, d2⟩
    · rw [d1] at c2; exact absurd c2 i1n0
    · exact Or.inl ⟨l1, c1, Or.inr ⟨by rw [x1]; rfl, d2.trans d1⟩⟩
  · rcases h2 with ⟨l2, c2, _⟩ | ⟨_, d2⟩
    · exfalso
      rw [l2] at hl
      by_cases q : lv = 1 ∧ ¬ v = 0
      · exact n1 ⟨q.1, by rw [← d1]; exact c2⟩
      · rw [if_neg q] at hl; exact absurd hl i1n0
    · exact Or.inr ⟨n1, d2.trans d1⟩
end MR
theorem b01 {x : Int32} (h : kb 0 x 1) : x = 0 ∨ x = 1 := by
  have h1 := h.1
  have h2 := h.2
  have : x.toInt = 0 ∨ x.toInt = 1 := by omega
  rcases this with e | e
  · exact Or.inl (Int32.toInt_inj.mp (e.trans (by decide +kernel)))
  · exact Or.inr (Int32.toInt_inj.mp (e.trans (by decide +kernel)))
theorem l_divp {y z : Int} (h : oBp 0 y) : oBp 0 (y.tdiv z) := by
  have h2 : (y.tdiv z).natAbs ≤ y.natAbs := by
    rw [Int.natAbs_tdiv]
    exact Nat.div_le_self _ _
  unfold oBp at *
  omega
theorem l_modp {y z : Int} (h : oBp 0 y) : oBp 0 (y.tmod z) := by
  have h2 : (y.tmod z).natAbs ≤ y.natAbs := by
    rw [Int.natAbs_tmod]
    exact Nat.mod_le _ _
  unfold oBp at *
  omega
/-- a comparison -/
theorem m_cmp {op : Nat} {lv b0 b1 b2 v : Int32} {X Z : Option Int} {x z : Int} (h1 : mRs lv b0 X b1 x) (h2 : mRs lv b1 Z b2 z) (hv : lv = 1 → b2 = 0 → jnV op x z = some v.toInt) : mTv lv b0 (X.bind fun p => Z.bind fun q => jnV op p q) b2 v := by
  rcases h1 with ⟨l1, c1, ⟨x1, d1, o1⟩ | ⟨x1, d1, y1⟩⟩ | ⟨n1, d1, y1⟩
  · rcases h2 with ⟨_, _, ⟨x2, d2, o2⟩ | ⟨x2, d2, z2⟩⟩ | ⟨n2, _⟩
    · exact Or.inl ⟨l1, c1, Or.inl ⟨by rw [x1, x2]; exact hv l1 d2, d2⟩⟩
    · exact Or.inl ⟨l1, c1, Or.inr ⟨by rw [x1, x2]; rfl, d2⟩⟩
    · exact absurd ⟨l1, d1⟩ n2
  · rcases h2 with ⟨_, c2, _⟩ | ⟨_, d2, _⟩
    · rw [d1] at c2; exact absurd c2 i1n0
    · exact Or.inl ⟨l1, c1, Or.inr ⟨by rw [x1]; rfl, d2.trans d1⟩⟩
  · rcases h2 with ⟨l2, c2, _⟩ | ⟨_, d2, _⟩
    · exact absurd ⟨l2, by rw [← d1]; exact c2⟩ n1
    · exact Or.inr ⟨n1, d2.trans d1⟩
/-- not, or not -/
theorem m_pl {v_ v5 : eV} {tu lv b0 b1 p v : Int32} {W : Nat → Int} (hv : v_ = (if tu = 1 then ntO v5 else v5)) (h : mTv lv b0 (v5 W) b1 p) (ht : tu = 0 ∨ tu = 1) (hp : p = 0 ∨ p = 1) (e : v = (if p = tu then 0 else 1)) : mTv lv b0 (v_ W) b1 v := by
  rcases h with ⟨l1, c1, ⟨x1, d1⟩ | ⟨x1, d1⟩⟩ | ⟨n1, d1⟩
  · refine Or.inl ⟨l1, c1, Or.inl ⟨?_, d1⟩⟩
    rcases ht with ht | ht
    · rw [hv, if_neg (by rw [ht]; decide +kernel), x1, e, ht]
      rcases hp with hp | hp
      · rw [hp]; decide +kernel
      · rw [hp]; decide +kernel
    · rw [hv, if_pos ht]
      show (v5 W).bind (fun x => some (1 - x)) = _
      rw [x1, e, ht]
      rcases hp with hp | hp
      · rw [hp]; decide +kernel
      · rw [hp]; decide +kernel
  · refine Or.inl ⟨l1, c1, Or.inr ⟨?_, d1⟩⟩
    rcases ht with ht | ht
    · rw [hv, if_neg (by rw [ht]; decide +kernel)]; exact x1
    · rw [hv, if_pos ht]
      show (v5 W).bind (fun x => some (1 - x)) = _
      rw [x1]; rfl
  · exact Or.inr ⟨n1, d1⟩
theorem mV_at {k : Nat → Int32} {x : Int32} {t i : Nat} (h : x.toInt = 2914 + 400 * (t : Int) + (i : Int)) : k x.toNatClampNeg = mV k t i := by
  unfold mV
  rw [show x.toNatClampNeg = 2914 + 400 * t + i from by unfold Int32.toNatClampNeg; omega]
theorem wx_2016 (u : Int32) : wIx true 2016 u = 0 := by
  unfold wIx
  rw [if_pos rfl, if_pos rfl]
theorem wx_2024 (u : Int32) : wIx true 2024 u = 1 := by
  unfold wIx
  rw [if_pos rfl, if_neg (by decide +kernel), if_pos rfl]
theorem wx_2025 (u : Int32) : wIx true 2025 u = 2 := by
  unfold wIx
  rw [if_pos rfl, if_neg (by decide +kernel), if_neg (by decide +kernel), if_pos rfl]
theorem wx_2026 (u : Int32) : wIx true 2026 u = 3 := by
  unfold wIx
  rw [if_pos rfl, if_neg (by decide +kernel), if_neg (by decide +kernel), if_neg (by decide +kernel), if_pos rfl]
theorem wx_2014 (u : Int32) : wIx true 2014 u = 4 + u.toInt.toNat := by
  unfold wIx
  rw [if_pos rfl, if_neg (by decide +kernel), if_neg (by decide +kernel), if_neg (by decide +kernel), if_neg (by decide +kernel), if_pos rfl]
theorem wx_2010 (u : Int32) : wIx true 2010 u = 14 + u.toInt.toNat := by
  unfold wIx
  rw [if_pos rfl, if_neg (by decide +kernel), if_neg (by decide +kernel), if_neg (by decide +kernel), if_neg (by decide +kernel), if_neg (by decide +kernel), if_pos rfl]
theorem wx_2027 (u : Int32) : wIx true 2027 u = 20 + u.toInt.toNat := by
  unfold wIx
  rw [if_pos rfl, if_neg (by decide +kernel), if_neg (by decide +kernel), if_neg (by decide +kernel), if_neg (by decide +kernel), if_neg (by decide +kernel), if_neg (by decide +kernel)]
/-- a law's leaf -/
theorem lfq_l {c v t : Int32} (h : tOk c v t) (q : pLf false t = true) : (c = 50 ∧ v = t ∧ kb 0 t 1000) ∨ (9 ≤ c.toInt ∧ c.toInt ≤ 18 ∧ ¬ kb 0 t 1000 ∧ t = mpL.getD c.toInt.toNat 0) := by
  rcases h with ⟨h1, h2⟩ | ⟨k, h1, h2, h3, h4⟩ | ⟨h1, h2, h3⟩ | ⟨h1, h2, h3⟩
  · rcases h2 with h2 | h2 <;> (rw [h2] at q; exact absurd q (by decide +kernel))
  · right
    have e : c.toInt.toNat = k := by omega
    rw [h4, mp_ll k (by omega)] at q
    have q := of_decide_eq_true q
    have hr := mp_r k (by omega) (by omega)
    refine ⟨by omega, by omega, ?_, by rw [e]; exact h4⟩
    rw [h4]
    intro z
    have := z.2
    omega
  · rcases h3 with ⟨h3, h4⟩ | ⟨h3, h4⟩
    · left
      rw [h4]
      exact ⟨h1, rfl, h2, h3⟩
    · rw [h4] at q; exact absurd q (by decide +kernel)
  · exfalso
    have e : t.toInt = c.toInt + 2900 := by first | exact h3 | (rw [h3]; exact tk_add ⟨h1, h2⟩)
    unfold pLf pInr at q
    rw [if_neg (by decide)] at q
    rw [Bool.or_eq_true, decide_eq_true_iff, decide_eq_true_iff] at q
    omega
theorem lfq_o {c v t : Int32} (h : tOk c v t) (q : pLf true t = true) (q2 : pNm true t = false) : (c = 50 ∧ v = t ∧ kb 0 t 1000) ∨ (16 ≤ c.toInt ∧ c.toInt ≤ 22 ∧ ¬ c = 16 ∧ ¬ c = 17 ∧ ¬ c = 22 ∧ ¬ kb 0 t 1000 ∧ t = mpL.getD c.toInt.toNat 0) := by
  rcases h with ⟨h1, h2⟩ | ⟨k, h1, h2, h3, h4⟩ | ⟨h1, h2, h3⟩ | ⟨h1, h2, h3⟩
  · rcases h2 with h2 | h2 <;> (rw [h2] at q; exact absurd q (by decide +kernel))
  · right
    have e : c.toInt.toNat = k := by omega
    rw [h4, mp_lo k (by omega)] at q
    rw [h4, mp_no k (by omega)] at q2
    have q := of_decide_eq_true q
    have hr := mp_r k (by omega) (by omega)
    have n16 : ¬ k = 16 := fun z => by rw [z] at q2; exact absurd q2 (by decide)
    have n17 : ¬ k = 17 := fun z => by rw [z] at q2; exact absurd q2 (by decide)
    have n22 : ¬ k = 22 := fun z => by rw [z] at q2; exact absurd q2 (by decide)
    refine ⟨by omega, by omega, fun z => ?_, fun z => ?_, fun z => ?_, ?_, by rw [e]; exact h4⟩
    · rw [z, show (16 : Int32).toInt = 16 from by decide +kernel] at h3; omega
    · rw [z, show (17 : Int32).toInt = 17 from by decide +kernel] at h3; omega
    · rw [z, show (22 : Int32).toInt = 22 from by decide +kernel] at h3; omega
    · rw [h4]
      intro z
      have := z.2
      omega
  · rcases h3 with ⟨h3, h4⟩ | ⟨h3, h4⟩
    · left
      rw [h4]
      exact ⟨h1, rfl, h2, h3⟩
    · rw [h4] at q; exact absurd q (by decide +kernel)
  · exfalso
    have e : t.toInt = c.toInt + 2900 := by first | exact h3 | (rw [h3]; exact tk_add ⟨h1, h2⟩)
    have hn : ∀ x : Int32, x.toInt < 3000 → ¬ t = x := fun x hx z => by rw [z] at e; omega
    unfold pLf pInr at q
    rw [if_pos rfl, decide_eq_false (hn 2014 (by decide +kernel)), decide_eq_false (hn 2010 (by decide +kernel)), decide_eq_false (hn 2027 (by decide +kernel)), decide_eq_false (hn 2016 (by decide +kernel)), decide_eq_false (hn 2024 (by decide +kernel)), decide_eq_false (hn 2025 (by decide +kernel)), decide_eq_false (hn 2026 (by decide +kernel))] at q
    rw [Bool.or_eq_true, decide_eq_true_iff] at q
    rcases q with q | q
    · omega
    · exact absurd q (by decide)
theorem nm_o {c v t : Int32} (h : tOk c v t) (q : pNm true t = true) : (c = 16 ∧ ¬ kb 0 t 1000 ∧ t = 2014) ∨ (c = 17 ∧ ¬ kb 0 t 1000 ∧ t = 2010) ∨ (c = 22 ∧ ¬ kb 0 t 1000 ∧ t = 2027) := by
  have e : t = 2014 ∨ t = 2010 ∨ t = 2027 := by
    unfold pNm at q
    rw [Bool.true_and, Bool.or_eq_true, Bool.or_eq_true, decide_eq_true_iff, decide_eq_true_iff, decide_eq_true_iff] at q
    rcases q with (q | q) | q
    · exact Or.inl q
    · exact Or.inr (Or.inl q)
    · exact Or.inr (Or.inr q)
  rcases e with e | e | e
  · exact Or.inl ⟨(tk_iff h (by decide +kernel)).mpr (e.trans (by decide +kernel)), by rw [e]; intro z; exact absurd z.2 (by decide +kernel), e⟩
  · exact Or.inr (Or.inl ⟨(tk_iff h (by decide +kernel)).mpr (e.trans (by decide +kernel)), by rw [e]; intro z; exact absurd z.2 (by decide +kernel), e⟩)
  · exact Or.inr (Or.inr ⟨(tk_iff h (by decide +kernel)).mpr (e.trans (by decide +kernel)), by rw [e]; intro z; exact absurd z.2 (by decide +kernel), e⟩)
/-- a NUMBER's token -/
theorem nmq_t {c v t : Int32} {hi : Int} (h : tOk c v t) (q : pInr t 0 hi = true) (hh : hi ≤ 1000) : c = 50 ∧ v = t ∧ kb 0 t hi := by
  unfold pInr at q
  have q := of_decide_eq_true q
  rcases h with ⟨h1, h2⟩ | ⟨k, h1, h2, h3, h4⟩ | ⟨h1, h2, h3⟩ | ⟨h1, h2, h3⟩
  · exfalso
    have z1 := i1002
    have z2 := i4000
    rcases h2 with h2 | h2 <;> (rw [h2] at q; omega)
  · exfalso
    have hr := mp_r k (by omega) (by omega)
    rw [h4] at q
    omega
  · rcases h3 with ⟨h3, h4⟩ | ⟨h3, h4⟩
    · exact ⟨h1, h4.symm, q⟩
    · exfalso
      have z1 := i1001
      rw [h4] at q
      omega
  · exfalso
    have e : t.toInt = c.toInt + 2900 := by first | exact h3 | (rw [h3]; exact tk_add ⟨h1, h2⟩)
    omega
theorem nm_hi (t : Int32) : (if t = 2014 then (9 : Int) else 5) ≤ 1000 := by split <;> decide
theorem nm_50 {c v t u : Int32} (h : tOk c v t) (q : pInr t 0 (if u = 2014 then 9 else 5) = true) : c = 50 := (nmq_t h q (nm_hi u)).1
theorem nm_v {c v t u : Int32} (h : tOk c v t) (q : pInr t 0 (if u = 2014 then 9 else 5) = true) : v = t := (nmq_t h q (nm_hi u)).2.1
theorem nm_b {c v t u y : Int32} {hi : Int} (h : tOk c v t) (q : pInr t 0 (if u = 2014 then 9 else 5) = true) (e : y = v) (hh : (if u = 2014 then (9 : Int) else 5) = hi) : kb 0 y hi := by
  have z := nmq_t h q (nm_hi u)
  rw [e, z.2.1, ← hh]
  exact z.2.2
/-- a law's word, as the reference keeps it -/
theorem lw_at {ob : Bool} {W : Nat → Int} {f : Nat → Int32} {a : Nat → Nat → Int32} {c t u : Int32} {n : Nat} (h : wQ ob W f a) (ho : ob = false) (h1 : 9 ≤ c.toInt) (h2 : c.toInt ≤ 18) (hn : (n : Int) = c.toInt - 9) (ht : t = mpL.getD c.toInt.toNat 0) : (a 26 n).toInt = W (wIx false t u) := by
  have z := h.2.1 ho c.toInt.toNat (by omega) (by omega)
  rw [show c.toInt.toNat - 9 = n by omega] at z
  rw [z, ht]
  rfl
/-- words of orders without a NUMBER -/
theorem wx_p {t : Int32} (h : t = 2016 ∨ t = 2024 ∨ t = 2025 ∨ t = 2026) (u u' : Int32) : wIx true t u = wIx true t u' := by
  rcases h with h | h | h | h
  · rw [h, wx_2016, wx_2016]
  · rw [h, wx_2024, wx_2024]
  · rw [h, wx_2025, wx_2025]
  · rw [h, wx_2026, wx_2026]
theorem hn3 {c v t : Int32} (h : tOk c v t) (ht : t = mpL.getD c.toInt.toNat 0) (h1 : 16 ≤ c.toInt) (h2 : c.toInt ≤ 22) (n16 : ¬ c = 16) (n17 : ¬ c = 17) (n22 : ¬ c = 22) : t = 2016 ∨ t = 2024 ∨ t = 2025 ∨ t = 2026 := by
  have e16 : ¬ c.toInt = 16 := fun e => n16 (Int32.toInt_inj.mp (e.trans (by decide +kernel)))
  have e17 : ¬ c.toInt = 17 := fun e => n17 (Int32.toInt_inj.mp (e.trans (by decide +kernel)))
  have e22 : ¬ c.toInt = 22 := fun e => n22 (Int32.toInt_inj.mp (e.trans (by decide +kernel)))
  have : c.toInt.toNat = 18 ∨ c.toInt.toNat = 19 ∨ c.toInt.toNat = 20 ∨ c.toInt.toNat = 21 := by omega
  rcases this with e | e | e | e
  · left; rw [ht, e]; decide +kernel
  · right; left; rw [ht, e]; decide +kernel
  · right; right; left; rw [ht, e]; decide +kernel
  · right; right; right; rw [ht, e]; decide +kernel
set_option maxHeartbeats 4000000 in
set_option maxRecDepth 100000 in
theorem n_bounded  (l : Launch) {D : va_G} {K : Nat → ClassId} (o : Nat) (r : Nat → Nat) (f : Nat → Int32) (a : Nat → Nat → Int32) (g : Nat → Int64) (hI : mI f a) (x : Int64) (lv : Int32) (blv : kb 0 lv 1)   : kL l yX12_bounded (Cond.code yX12_bounded cX12_bounded 4 (some .long) :: kG) (rmD 1 0 0) D (tysK K) [.ref o, .long x, .int lv] (mW K o r f a g) (fun v (u : Nat → Int32) => kbl (-9223372036854775808) v 9223372036854775807 ∧ mI u a ∧ fE [24] f u ∧ bdR lv (f 24) x.toInt (u 24) v.toInt) (fun u => mW K o r u a g) 0 0 := by
  refine kL.of (cc := cX12_bounded) (maxL := 4) (ret := (some .long)) (by decide) rfl (Nat.le_of_ble_eq_true rfl) ?_
  intro p e s m below meth c A hx hb hr hml hown hts hlocks hnm hK hP hD hS hA ls hl
  have hE : fE [24] f f := fE_rf
  have hg : ∀ w ∈ kG, w.before _ s = true := fun w h => hts w (List.mem_cons_of_mem _ h)
  have hown : s.vm.findClass RX12 = some m.cls := hown
  have hl : lv_has ls 4 [(0, .ref o), (1, .long x), (3, .int lv)] := hl
  obtain ⟨c24_f, ec24_f⟩ : ∃ z : Int32, z = f 24 := ⟨_, rfl⟩
  have b1 : kb 0 c24_f 1 := kb_eq ec24_f (fI_at hI.1 24 (by decide) (by decide))
  refine lv_iload_n hx hb dX12_bounded_0 rfl (lv_at hl 2 rfl) ?_
  refine lv_if_eq (tgt := 25) hx hb dX12_bounded_1 (by decide) (fun c2 => ?_) (fun c2 => ?_)
  · have b3 : kb 0 lv 0 := kb_eq c2 kc_0
    refine lv_aload_n hx hb dX12_bounded_25 rfl (lv_at hl 0 rfl) ?_
    refine va_get (D := D) (ci := 12) (v := .int (f 24)) (C := RX12) (T := TX12) (N := 48) hx hb hg inC12 hown hK hP 0 rfl rfl 24 (by decide) (hg _ wt5_184) (fun _ h9 => h9) rfl dX12_bounded_26 ?_
    refine k_top (z := c24_f) ec24_f.symm ?_
    refine lv_if_eq (tgt := 36) hx hb dX12_bounded_29 (by decide) (fun c4 => ?_) (fun c4 => ?_)
    · have b5 : kb 0 c24_f 0 := kb_eq c4 kc_0
      refine lv_lload_n hx hb dX12_bounded_36 rfl (lv_at hl 1 rfl) ?_
      exact kL_ret (v := x) hx hb hr hlocks hK hS dX12_bounded_37 f hP hD ⟨(kbl_any x), hI, hE, ⟨(by rw [if_neg (fun h => absurd (c2.symm.trans h.1) (by decide +kernel))]), (by show _ = (if f 24 = 0 then _ else _); rw [ec24_f.symm, if_pos c4])⟩⟩
    · have b6 : kb 1 c24_f 1 := kr_nel c4 b1 kc_0 (by decide)
      refine lv_lconst (v := 0) hx hb dX12_bounded_32 (by decide) ?_
      refine lv_goto (tgt := 37) hx hb dX12_bounded_33 (by decide) ?_
      exact kL_ret (v := 0) hx hb hr hlocks hK hS dX12_bounded_37 f hP hD ⟨(kbl_w kcl_0 (by decide) (by decide)), hI, hE, ⟨(by rw [if_neg (fun h => absurd (c2.symm.trans h.1) (by decide +kernel))]), (by show _ = (if f 24 = 0 then _ else _); rw [ec24_f.symm, if_neg c4]; decide +kernel)⟩⟩
  · have b7 : kb 1 lv 1 := kr_nel c2 blv kc_0 (by decide)
    refine lv_lload_n hx hb dX12_bounded_4 rfl (lv_at hl 1 rfl) ?_
    refine lv_ldc2 (v := (1000000000)) hx hb hown (hg _ wt7_78) dX12_bounded_5 ?_
    refine W.lcmp hx hb dX12_bounded_8 ?_
    refine lv_topi (fun t8 et8 => ?_)
    refine lv_if_gt (tgt := 20) hx hb dX12_bounded_9 (by decide) (fun c9 => ?_) (fun c9 => ?_)
    · have h10 := klc_gt (et8 ▸ c9)
      have b11 : kbl 1000000001 x 9223372036854775807 := klr_lt2 h10 kcl_1000000000 (kbl_any x) (by decide)
      refine lv_aload_n hx hb dX12_bounded_20 rfl (lv_at hl 0 rfl) ?_
      refine lv_iconst (v := 1) hx hb dX12_bounded_21 (by decide) ?_
      refine va_put (D := D) (ci := 12) (v := .int 1) (ty := .boolean) (C := RX12) (T := TX12) (N := 48) hx hb hg inC12 tyX12 tyX12_ok nmX12 hown hK hP hD hS 0 rfl rfl 24 (by decide) (hg _ wt5_184) (fun _ h9 => h9) rfl (by decide +kernel) rfl rfl (Nat.le_of_ble_eq_true rfl) dX12_bounded_22 (fun H locs hP hD hS => ?_)
      have hP : va_P D vwCl (mW K o r (upd f 24 1) a g) H := hP
      have hD : va_D A (mW K o r (upd f 24 1) a g) := hD
      refine k_gen (P := fun z => va_P D vwCl (mW K o r z a g) H ∧ va_D A (mW K o r z a g) ∧ (mI z a) ∧ (fE [24] f z)) (upd f 24 1) ⟨hP, hD, (mI_f hI (fI_st hI.1 24 kc_1 (by decide) (by decide))), (fE_f hE (by decide))⟩ (fun f_12 ef_12 hq => ?_)
      obtain ⟨hP, hD, hI, hE⟩ := hq
      refine lv_aload_n hx hb dX12_bounded_25 rfl (lv_at hl 0 rfl) ?_
      refine va_get (D := D) (ci := 12) (v := .int (f_12 24)) (C := RX12) (T := TX12) (N := 48) hx hb hg inC12 hown hK hP 0 rfl rfl 24 (by decide) (hg _ wt5_184) (fun _ h9 => h9) rfl dX12_bounded_26 ?_
      refine k_top (z := 1) (show f_12 24 = 1 from by rw [← ef_12]; rfl) ?_
      refine lv_if_eq (tgt := 36) hx hb dX12_bounded_29 (by decide) (fun c13 => ?_) (fun c13 => ?_)
      · exact kb_dj c13 kc_1 kc_0 (by decide)
      · refine lv_lconst (v := 0) hx hb dX12_bounded_32 (by decide) ?_
        refine lv_goto (tgt := 37) hx hb dX12_bounded_33 (by decide) ?_
        exact kL_ret (v := 0) hx hb hr hlocks hK hS dX12_bounded_37 f_12 hP hD ⟨(kbl_w kcl_0 (by decide) (by decide)), hI, hE, ⟨(by have k1 : ((-1000000000) : Int64).toInt = -1000000000 := (by decide +kernel); have k2 : (1000000000 : Int64).toInt = 1000000000 := (by decide +kernel); rw [if_pos ⟨kb_11 b7, by omega⟩]; exact (show f_12 24 = 1 from by rw [← ef_12]; rfl)), (by show _ = (if f_12 24 = 0 then _ else _); rw [(show f_12 24 = 1 from by rw [← ef_12]; rfl), if_neg (by decide +kernel)]; decide +kernel)⟩⟩
    · have h14 := klc_ngt (et8 ▸ c9)
      have b15 : kbl (-9223372036854775808) x 1000000000 := klr_le1 h14 (kbl_any x) kcl_1000000000
      refine lv_lload_n hx hb dX12_bounded_12 rfl (lv_at hl 1 rfl) ?_
      refine lv_ldc2 (v := (-1000000000)) hx hb hown (hg _ wt7_79) dX12_bounded_13 ?_
      refine W.lcmp hx hb dX12_bounded_16 ?_
      refine lv_topi (fun t16 et16 => ?_)
      refine lv_if_ge (tgt := 25) hx hb dX12_bounded_17 (by decide) (fun c17 => ?_) (fun c17 => ?_)
      · have h18 := klc_ge (et16 ▸ c17)
        have b19 : kbl (-1000000000) x 1000000000 := klr_le2 h18 kcl_m1000000000 b15
        refine lv_aload_n hx hb dX12_bounded_25 rfl (lv_at hl 0 rfl) ?_
        refine va_get (D := D) (ci := 12) (v := .int (f 24)) (C := RX12) (T := TX12) (N := 48) hx hb hg inC12 hown hK hP 0 rfl rfl 24 (by decide) (hg _ wt5_184) (fun _ h9 => h9) rfl dX12_bounded_26 ?_
        refine k_top (z := c24_f) ec24_f.symm ?_
        refine lv_if_eq (tgt := 36) hx hb dX12_bounded_29 (by decide) (fun c20 => ?_) (fun c20 => ?_)
        · have b21 : kb 0 c24_f 0 := kb_eq c20 kc_0
          refine lv_lload_n hx hb dX12_bounded_36 rfl (lv_at hl 1 rfl) ?_
          exact kL_ret (v := x) hx hb hr hlocks hK hS dX12_bounded_37 f hP hD ⟨(kbl_w b19 (by decide) (by decide)), hI, hE, ⟨(by have k1 : ((-1000000000) : Int64).toInt = -1000000000 := (by decide +kernel); have k2 : (1000000000 : Int64).toInt = 1000000000 := (by decide +kernel); rw [if_neg (fun h => by have w1 := h.2; omega)]), (by show _ = (if f 24 = 0 then _ else _); rw [ec24_f.symm, if_pos c20])⟩⟩
        · have b22 : kb 1 c24_f 1 := kr_nel c20 b1 kc_0 (by decide)
          refine lv_lconst (v := 0) hx hb dX12_bounded_32 (by decide) ?_
          refine lv_goto (tgt := 37) hx hb dX12_bounded_33 (by decide) ?_
          exact kL_ret (v := 0) hx hb hr hlocks hK hS dX12_bounded_37 f hP hD ⟨(kbl_w kcl_0 (by decide) (by decide)), hI, hE, ⟨(by have k1 : ((-1000000000) : Int64).toInt = -1000000000 := (by decide +kernel); have k2 : (1000000000 : Int64).toInt = 1000000000 := (by decide +kernel); rw [if_neg (fun h => by have w1 := h.2; omega)]), (by show _ = (if f 24 = 0 then _ else _); rw [ec24_f.symm, if_neg c20]; decide +kernel)⟩⟩
      · have h23 := klc_nge (et16 ▸ c17)
        have b24 : kbl (-9223372036854775808) x (-1000000001) := klr_lt1 h23 b15 kcl_m1000000000 (by decide)
        refine lv_aload_n hx hb dX12_bounded_20 rfl (lv_at hl 0 rfl) ?_
        refine lv_iconst (v := 1) hx hb dX12_bounded_21 (by decide) ?_
        refine va_put (D := D) (ci := 12) (v := .int 1) (ty := .boolean) (C := RX12) (T := TX12) (N := 48) hx hb hg inC12 tyX12 tyX12_ok nmX12 hown hK hP hD hS 0 rfl rfl 24 (by decide) (hg _ wt5_184) (fun _ h9 => h9) rfl (by decide +kernel) rfl rfl (Nat.le_of_ble_eq_true rfl) dX12_bounded_22 (fun H locs hP hD hS => ?_)
        have hP : va_P D vwCl (mW K o r (upd f 24 1) a g) H := hP
        have hD : va_D A (mW K o r (upd f 24 1) a g) := hD
        refine k_gen (P := fun z => va_P D vwCl (mW K o r z a g) H ∧ va_D A (mW K o r z a g) ∧ (mI z a) ∧ (fE [24] f z)) (upd f 24 1) ⟨hP, hD, (mI_f hI (fI_st hI.1 24 kc_1 (by decide) (by decide))), (fE_f hE (by decide))⟩ (fun f_25 ef_25 hq => ?_)
        obtain ⟨hP, hD, hI, hE⟩ := hq
        refine lv_aload_n hx hb dX12_bounded_25 rfl (lv_at hl 0 rfl) ?_
        refine va_get (D := D) (ci := 12) (v := .int (f_25 24)) (C := RX12) (T := TX12) (N := 48) hx hb hg inC12 hown hK hP 0 rfl rfl 24 (by decide) (hg _ wt5_184) (fun _ h9 => h9) rfl dX12_bounded_26 ?_
        refine k_top (z := 1) (show f_25 24 = 1 from by rw [← ef_25]; rfl) ?_
        refine lv_if_eq (tgt := 36) hx hb dX12_bounded_29 (by decide) (fun c26 => ?_) (fun c26 => ?_)
        · exact kb_dj c26 kc_1 kc_0 (by decide)
        · refine lv_lconst (v := 0) hx hb dX12_bounded_32 (by decide) ?_
          refine lv_goto (tgt := 37) hx hb dX12_bounded_33 (by decide) ?_
          exact kL_ret (v := 0) hx hb hr hlocks hK hS dX12_bounded_37 f_25 hP hD ⟨(kbl_w kcl_0 (by decide) (by decide)), hI, hE, ⟨(by have k1 : ((-1000000000) : Int64).toInt = -1000000000 := (by decide +kernel); have k2 : (1000000000 : Int64).toInt = 1000000000 := (by decide +kernel); rw [if_pos ⟨kb_11 b7, by omega⟩]; exact (show f_25 24 = 1 from by rw [← ef_25]; rfl)), (by show _ = (if f_25 24 = 0 then _ else _); rw [(show f_25 24 = 1 from by rw [← ef_25]; rfl), if_neg (by decide +kernel)]; decide +kernel)⟩⟩
set_option maxHeartbeats 4000000 in
def nSum (d : Nat) : Prop := ∀ (l : Launch) {D : va_G} {K : Nat → ClassId} (o : Nat) (r : Nat → Nat) (f : Nat → Int32) (a : Nat → Nat → Int32) (g : Nat → Int64) (hI : mI f a) (lv : Int32) (blv : kb 0 lv 1) (t i j : Nat) (ob : Bool) (T : Nat → Int32) (Ws : Nat → Int) (v_ : eV) (hp0 : eS f a t ob) (hp1 : (f 22).toInt = 400 * (t : Int) + (i : Int)) (hp2 : tQ (a 2) t T) (hp3 : wQ ob Ws f a) (hp4 : eG ob T d 0 i e1 j v_), kL l yX12_sumOf (Cond.code yX12_sumOf cX12_sumOf 7 (some .long) :: kG) (rmD (3 * d + 8) 0 0) D (tysK K) [.ref o, .int lv] (mW K o r f a g) (fun v (u : Nat → Int32) => kbl (-9223372036854775808) v 9223372036854775807 ∧ mI u a ∧ fE [22, 24] f u ∧ (u 22).toInt = 400 * (t : Int) + (j : Int) ∧ mRs lv (f 24) (v_ Ws) (u 24) v.toInt) (fun u => mW K o r u a g) 0 0
set_option maxHeartbeats 4000000 in
def nTerm (d : Nat) : Prop := ∀ (l : Launch) {D : va_G} {K : Nat → ClassId} (o : Nat) (r : Nat → Nat) (f : Nat → Int32) (a : Nat → Nat → Int32) (g : Nat → Int64) (hI : mI f a) (lv : Int32) (blv : kb 0 lv 1) (t i j : Nat) (ob : Bool) (T : Nat → Int32) (Ws : Nat → Int) (v_ : eV) (hp0 : eS f a t ob) (hp1 : (f 22).toInt = 400 * (t : Int) + (i : Int)) (hp2 : tQ (a 2) t T) (hp3 : wQ ob Ws f a) (hp4 : eG ob T d 1 i e1 j v_), kL l yX12_termOf (Cond.code yX12_termOf cX12_termOf 7 (some .long) :: kG) (rmD (3 * d + 7) 0 0) D (tysK K) [.ref o, .int lv] (mW K o r f a g) (fun v (u : Nat → Int32) => kbl (-9223372036854775808) v 9223372036854775807 ∧ mI u a ∧ fE [22, 24] f u ∧ (u 22).toInt = 400 * (t : Int) + (j : Int) ∧ mRs lv (f 24) (v_ Ws) (u 24) v.toInt) (fun u => mW K o r u a g) 0 0
set_option maxHeartbeats 4000000 in
def nPart (d : Nat) : Prop := ∀ (l : Launch) {D : va_G} {K : Nat → ClassId} (o : Nat) (r : Nat → Nat) (f : Nat → Int32) (a : Nat → Nat → Int32) (g : Nat → Int64) (hI : mI f a) (lv : Int32) (blv : kb 0 lv 1) (t i j : Nat) (ob : Bool) (T : Nat → Int32) (Ws : Nat → Int) (v_ : eV) (hp0 : eS f a t ob) (hp1 : (f 22).toInt = 400 * (t : Int) + (i : Int)) (hp2 : tQ (a 2) t T) (hp3 : wQ ob Ws f a) (hp4 : eG ob T d 2 i e1 j v_), kL l yX12_partOf (Cond.code yX12_partOf cX12_partOf 4 (some .long) :: kG) (rmD (3 * d + 6) 0 0) D (tysK K) [.ref o, .int lv] (mW K o r f a g) (fun v (u : Nat → Int32) => kbl (-9223372036854775808) v 9223372036854775807 ∧ mI u a ∧ fE [22, 24] f u ∧ (u 22).toInt = 400 * (t : Int) + (j : Int) ∧ mRs lv (f 24) (v_ Ws) (u 24) v.toInt) (fun u => mW K o r u a g) 0 0
set_option maxHeartbeats 4000000 in
def nTest (d : Nat) : Prop := ∀ (l : Launch) {D : va_G} {K : Nat → ClassId} (o : Nat) (r : Nat → Nat) (f : Nat → Int32) (a : Nat → Nat → Int32) (g : Nat → Int64) (hI : mI f a) (lv : Int32) (blv : kb 0 lv 1) (t i j : Nat) (ob : Bool) (T : Nat → Int32) (Ws : Nat → Int) (v_ : eV) (hp0 : eS f a t ob) (hp1 : (f 22).toInt = 400 * (t : Int) + (i : Int)) (hp2 : tQ (a 2) t T) (hp3 : wQ ob Ws f a) (hp4 : eG ob T d 3 i e1 j v_), kI l yX12_testOf (Cond.code yX12_testOf cX12_testOf 4 (some .boolean) :: kG) (rmD (4 * d + 15) 0 0) D (tysK K) [.ref o, .int lv] (mW K o r f a g) (fun v (u : Nat → Int32) => kb 0 v 1 ∧ mI u a ∧ fE [22, 24] f u ∧ (u 22).toInt = 400 * (t : Int) + (j : Int) ∧ mTv lv (f 24) (v_ Ws) (u 24) v) (fun u => mW K o r u a g) 0 0
set_option maxHeartbeats 4000000 in
def nBoth (d : Nat) : Prop := ∀ (l : Launch) {D : va_G} {K : Nat → ClassId} (o : Nat) (r : Nat → Nat) (f : Nat → Int32) (a : Nat → Nat → Int32) (g : Nat → Int64) (hI : mI f a) (lv : Int32) (blv : kb 0 lv 1) (t i j : Nat) (ob : Bool) (T : Nat → Int32) (Ws : Nat → Int) (v_ : eV) (hp0 : eS f a t ob) (hp1 : (f 22).toInt = 400 * (t : Int) + (i : Int)) (hp2 : tQ (a 2) t T) (hp3 : wQ ob Ws f a) (hp4 : eG ob T d 4 i e1 j v_), kI l yX12_bothOf (Cond.code yX12_bothOf cX12_bothOf 4 (some .boolean) :: kG) (rmD (4 * d + 14) 0 0) D (tysK K) [.ref o, .int lv] (mW K o r f a g) (fun v (u : Nat → Int32) => kb 0 v 1 ∧ mI u a ∧ fE [22, 24] f u ∧ (u 22).toInt = 400 * (t : Int) + (j : Int) ∧ mTv lv (f 24) (v_ Ws) (u 24) v) (fun u => mW K o r u a g) 0 0
set_option maxHeartbeats 4000000 in
def nPlain (d : Nat) : Prop := ∀ (l : Launch) {D : va_G} {K : Nat → ClassId} (o : Nat) (r : Nat → Nat) (f : Nat → Int32) (a : Nat → Nat → Int32) (g : Nat → Int64) (hI : mI f a) (lv : Int32) (blv : kb 0 lv 1) (t i j : Nat) (ob : Bool) (T : Nat → Int32) (Ws : Nat → Int) (v_ : eV) (hp0 : eS f a t ob) (hp1 : (f 22).toInt = 400 * (t : Int) + (i : Int)) (hp2 : tQ (a 2) t T) (hp3 : wQ ob Ws f a) (hp4 : eG ob T d 5 i e1 j v_), kI l yX12_plainOf (Cond.code yX12_plainOf cX12_plainOf 3 (some .boolean) :: kG) (rmD (4 * d + 13) 0 0) D (tysK K) [.ref o, .int lv] (mW K o r f a g) (fun v (u : Nat → Int32) => kb 0 v 1 ∧ mI u a ∧ fE [22, 24] f u ∧ (u 22).toInt = 400 * (t : Int) + (j : Int) ∧ mTv lv (f 24) (v_ Ws) (u 24) v) (fun u => mW K o r u a g) 0 0
set_option maxHeartbeats 4000000 in
def nPos (d : Nat) : Prop := ∀ (l : Launch) {D : va_G} {K : Nat → ClassId} (o : Nat) (r : Nat → Nat) (f : Nat → Int32) (a : Nat → Nat → Int32) (g : Nat → Int64) (hI : mI f a) (lv : Int32) (blv : kb 0 lv 1) (t i j : Nat) (ob : Bool) (T : Nat → Int32) (Ws : Nat → Int) (v_ : eV) (hp0 : eS f a t ob) (hp1 : (f 22).toInt = 400 * (t : Int) + (i : Int)) (hp2 : tQ (a 2) t T) (hp3 : wQ ob Ws f a) (hp4 : eG ob T d 10 i e1 j v_), kI l yX12_positiveOf (Cond.code yX12_positiveOf cX12_positiveOf 7 (some .boolean) :: kG) (rmD (4 * d + 12) 0 0) D (tysK K) [.ref o, .int lv] (mW K o r f a g) (fun v (u : Nat → Int32) => kb 0 v 1 ∧ mI u a ∧ fE [22, 24] f u ∧ (u 22).toInt = 400 * (t : Int) + (j : Int) ∧ mTv lv (f 24) (v_ Ws) (u 24) v) (fun u => mW K o r u a g) 0 0
set_option maxHeartbeats 4000000 in
set_option maxRecDepth 100000 in
theorem n_orderValue  (l : Launch) {D : va_G} {K : Nat → ClassId} (o : Nat) (r : Nat → Nat) (f : Nat → Int32) (a : Nat → Nat → Int32) (g : Nat → Int64) (hI : mI f a) (x : Int32) (y : Int32) (bx : kb 16 x 22) (Ws : Nat → Int) (hp0 : oQ Ws f (a 2)) (hp1 : (x = 16 → kb 0 y 9) ∧ (x = 17 ∨ x = 22 → kb 0 y 5)) : kI l yX12_orderValue (Cond.code yX12_orderValue cX12_orderValue 3 (some .int) :: kG) (rmD 3 0 0) D (tysK K) [.ref o, .int x, .int y] (mW K o r f a g) (fun v (_ : Unit) => kb (-2147483648) v 2147483647 ∧ v.toInt = Ws (wIx true (mpL.getD x.toInt.toNat 0) y)) (fun _ => mW K o r f a g) 0 0 := by
  refine kI.of (cc := cX12_orderValue) (maxL := 3) (ret := (some .int)) (by decide) rfl (Nat.le_of_ble_eq_true rfl) ?_
  intro p e s m below meth c A hx hb hr hml hown hts hlocks hnm hK hP hD hS hA ls hl
  have hg : ∀ w ∈ kG, w.before _ s = true := fun w h => hts w (List.mem_cons_of_mem _ h)
  have hown : s.vm.findClass RX12 = some m.cls := hown
  have hl : lv_has ls 3 [(0, .ref o), (1, .int x), (2, .int y)] := hl
  refine lv_iload_n hx hb dX12_orderValue_0 rfl (lv_at hl 1 rfl) ?_
  by_cases q1 : x = 16
  · have b2 : kb 16 x 16 := kb_eq q1 kc_16
    refine lv_tableIn (tgt := 44) hx hb dX12_orderValue_1 (by rw [q1]; decide +kernel) (by rw [q1]; decide +kernel) (by rw [q1]; rfl) (by decide) ?_
    have yb9 := (hp1.1 q1)
    have b3 : kb 0 y 9 := yb9
    refine lv_aload_n hx hb dX12_orderValue_44 rfl (lv_at hl 0 rfl) ?_
    refine lv_iload_n hx hb dX12_orderValue_45 rfl (lv_at hl 2 rfl) ?_
    refine kI.callV (As := [.int y]) (rest := []) ⟨hx, hb, hml, hown, hg⟩ (m_isPart l o r f a g hI y  ) (cwV 1 hg (kgV wt6_104 wt6_106 wp3_10 wt1_14 wt6_107) rfl rfl rfl (by decide +kernel) ⟨by decide, by decide⟩) hK hP hD hS hA mIs [] rfl (wr := []) rfl rfl rfl (fun i h => by cases h) 0 12 rfl rfl rfl hl.1 rfl (Nat.le_of_ble_eq_true rfl) dX12_orderValue_46 ⟨Nat.le_refl _, Nat.le_refl _⟩ (fun v5 u6 H locs hw4 hP hD hS => ?_)
    have hP : va_P D vwCl (mW K o r f a g) H := hP
    have hD : va_D A (mW K o r f a g) := hD
    refine lv_if_eq (tgt := 63) hx hb dX12_orderValue_49 (by decide) (fun c7 => ?_) (fun c7 => ?_)
    · have b8 : kb 0 v5 0 := kb_eq c7 kc_0
      refine lv_iconst (v := (-1)) hx hb dX12_orderValue_63 (by decide) ?_
      exact kI_ret (v := (-1)) hx hb hr hlocks rfl hK hS dX12_orderValue_64 () hP hD ⟨(kb_w kc_m1 (by decide) (by decide)), (by rw [show mpL.getD x.toInt.toNat 0 = 2014 from by rw [q1]; decide +kernel, wx_2014, hp0.2.2.2.2.2.1 _ (by have w3 := (yb9).1; have w4 := (yb9).2; omega), if_neg (fun z => (hw4.2.2 c7) ⟨by have w3 := (yb9).1; have w4 := (yb9).2; omega, by have w3 := (yb9).1; have w4 := (yb9).2; omega⟩)]; decide +kernel)⟩
    · have b9 : kb 1 v5 1 := kr_nel c7 hw4.1 kc_0 (by decide)
      have h10 := hw4.2.1 c7
      have b11 : kb 0 y 9 := ⟨by have h1 := h10.1; omega, b3.2⟩
      refine lv_aload_n hx hb dX12_orderValue_52 rfl (lv_at hl 0 rfl) ?_
      refine va_get (D := D) (ci := 12) (v := .ref (r 2)) (C := RX12) (T := TX12) (N := 48) hx hb hg inC12 hown hK hP 0 rfl rfl 2 (by decide) (hg _ wt5_162) (fun _ h9 => h9) rfl dX12_orderValue_53 ?_
      refine lv_iconst (v := 0) hx hb dX12_orderValue_56 (by decide) ?_
      refine lv_iload_n hx hb dX12_orderValue_57 rfl (lv_at hl 2 rfl) ?_
      refine lv_iadd hx hb dX12_orderValue_58 ?_
      refine k_top (z := y) (Int32.zero_add _) ?_
      refine va_iald hx hb hK hP 2 0 rfl rfl (kb_in b11 (by decide) (by decide)) dX12_orderValue_59 ?_
      refine lv_topi (fun t12 et12 => ?_)
      have b13 : kb 0 t12 99 := kb_eq et12 (aI_ld hI.2.1 2 0 10 b11 (by decide) (by decide) (by decide +kernel))
      refine lv_goto (tgt := 64) hx hb dX12_orderValue_60 (by decide) ?_
      exact kI_ret (v := t12) hx hb hr hlocks rfl hK hS dX12_orderValue_64 () hP hD ⟨(kb_w b13 (by decide) (by decide)), (by rw [show mpL.getD x.toInt.toNat 0 = 2014 from by rw [q1]; decide +kernel, wx_2014, hp0.2.2.2.2.2.1 _ (by have w3 := (yb9).1; have w4 := (yb9).2; omega), if_pos (by have w5 := h10; have w3 := (yb9).1; have w4 := (yb9).2; omega)]; exact congrArg Int32.toInt (show t12 = a 2 (0 + y.toNatClampNeg) from et12.trans (congrArg (a 2) (Nat.zero_add _).symm)))⟩
  by_cases q14 : x = 17
  · have b15 : kb 17 x 17 := kb_eq q14 kc_17
    refine lv_tableIn (tgt := 65) hx hb dX12_orderValue_1 (by rw [q14]; decide +kernel) (by rw [q14]; decide +kernel) (by rw [q14]; rfl) (by decide) ?_
    have yb9 := (hp1.2 (Or.inl q14))
    have b16 : kb 0 y 5 := yb9
    refine lv_aload_n hx hb dX12_orderValue_65 rfl (lv_at hl 0 rfl) ?_
    refine lv_iload_n hx hb dX12_orderValue_66 rfl (lv_at hl 2 rfl) ?_
    refine kI.callV (As := [.int y]) (rest := []) ⟨hx, hb, hml, hown, hg⟩ (m_isBuilder l o r f a g hI y  ) (cwV 1 hg (kgV wt6_138 wt6_140 wp3_15 wt1_14 wt6_141) rfl rfl rfl (by decide +kernel) ⟨by decide, by decide⟩) hK hP hD hS hA mIs [] rfl (wr := []) rfl rfl rfl (fun i h => by cases h) 0 12 rfl rfl rfl hl.1 rfl (Nat.le_of_ble_eq_true rfl) dX12_orderValue_67 ⟨Nat.le_refl _, Nat.le_refl _⟩ (fun v18 u19 H locs hw17 hP hD hS => ?_)
    have hP : va_P D vwCl (mW K o r f a g) H := hP
    have hD : va_D A (mW K o r f a g) := hD
    refine lv_if_eq (tgt := 85) hx hb dX12_orderValue_70 (by decide) (fun c20 => ?_) (fun c20 => ?_)
    · have b21 : kb 0 v18 0 := kb_eq c20 kc_0
      refine lv_iconst (v := (-1)) hx hb dX12_orderValue_85 (by decide) ?_
      exact kI_ret (v := (-1)) hx hb hr hlocks rfl hK hS dX12_orderValue_86 () hP hD ⟨(kb_w kc_m1 (by decide) (by decide)), (by rw [show mpL.getD x.toInt.toNat 0 = 2010 from by rw [q14]; decide +kernel, wx_2010, hp0.2.2.2.2.2.2.1 _ (by have w3 := (yb9).1; have w4 := (yb9).2; omega), if_neg (fun z => (hw17.2.2 c20) ⟨by have w3 := (yb9).1; have w4 := (yb9).2; omega, by have w3 := (yb9).1; have w4 := (yb9).2; omega⟩)]; decide +kernel)⟩
    · have b22 : kb 1 v18 1 := kr_nel c20 hw17.1 kc_0 (by decide)
      have h23 := hw17.2.1 c20
      have b24 : kb 0 y 5 := ⟨by have h1 := h23.1; omega, b16.2⟩
      refine lv_aload_n hx hb dX12_orderValue_73 rfl (lv_at hl 0 rfl) ?_
      refine va_get (D := D) (ci := 12) (v := .ref (r 2)) (C := RX12) (T := TX12) (N := 48) hx hb hg inC12 hown hK hP 0 rfl rfl 2 (by decide) (hg _ wt5_162) (fun _ h9 => h9) rfl dX12_orderValue_74 ?_
      refine lv_bipush (v := 10) hx hb dX12_orderValue_77 (by decide) ?_
      refine lv_iload_n hx hb dX12_orderValue_79 rfl (lv_at hl 2 rfl) ?_
      refine lv_iadd hx hb dX12_orderValue_80 ?_
      refine lv_topi (fun t25 et25 => ?_)
      have b26 : kb 10 t25 15 := kb_eq et25 (kb_add kc_10 b24 (by decide) (by decide))
      have qt25 : t25.toInt = 10 + y.toInt := by rw [et25]; exact kt_cadd kc_10 b24 (by decide) (by decide)
      refine va_iald hx hb hK hP 2 0 rfl rfl (kb_in b26 (by decide) (by decide)) dX12_orderValue_81 ?_
      refine lv_topi (fun t27 et27 => ?_)
      have b28 : kb 0 t27 99 := kb_eq et27 (aI_ld hI.2.1 2 10 6 b26 (by decide) (by decide) (by decide +kernel))
      refine lv_goto (tgt := 86) hx hb dX12_orderValue_82 (by decide) ?_
      exact kI_ret (v := t27) hx hb hr hlocks rfl hK hS dX12_orderValue_86 () hP hD ⟨(kb_w b28 (by decide) (by decide)), (by rw [show mpL.getD x.toInt.toNat 0 = 2010 from by rw [q14]; decide +kernel, wx_2010, hp0.2.2.2.2.2.2.1 _ (by have w3 := (yb9).1; have w4 := (yb9).2; omega), if_pos (by have w5 := h23; have w3 := (yb9).1; have w4 := (yb9).2; omega)]; exact congrArg Int32.toInt (show t27 = a 2 (10 + y.toNatClampNeg) from et27.trans (congrArg (a 2) (show t25.toNatClampNeg = _ from by have w1 := qt25; have w2 := (b24).1; unfold Int32.toNatClampNeg; omega))))⟩
  by_cases q29 : x = 18
  · have b30 : kb 18 x 18 := kb_eq q29 kc_18
    refine lv_tableIn (tgt := 109) hx hb dX12_orderValue_1 (by rw [q29]; decide +kernel) (by rw [q29]; decide +kernel) (by rw [q29]; rfl) (by decide) ?_
    refine lv_aload_n hx hb dX12_orderValue_109 rfl (lv_at hl 0 rfl) ?_
    refine va_get (D := D) (ci := 12) (v := .ref (r 2)) (C := RX12) (T := TX12) (N := 48) hx hb hg inC12 hown hK hP 0 rfl rfl 2 (by decide) (hg _ wt5_162) (fun _ h9 => h9) rfl dX12_orderValue_110 ?_
    refine lv_bipush (v := 22) hx hb dX12_orderValue_113 (by decide) ?_
    refine va_iald hx hb hK hP 2 0 rfl rfl (kb_in kc_22 (by decide) (by decide)) dX12_orderValue_115 ?_
    refine lv_topi (fun t31 et31 => ?_)
    rw [cl_22] at et31
    exact kI_ret (v := t31) hx hb hr hlocks rfl hK hS dX12_orderValue_116 () hP hD ⟨(kb_any t31), (by rw [show mpL.getD x.toInt.toNat 0 = 2016 from by rw [q29]; decide +kernel, wx_2016, hp0.2.1]; exact congrArg Int32.toInt et31)⟩
  by_cases q32 : x = 19
  · have b33 : kb 19 x 19 := kb_eq q32 kc_19
    refine lv_tableIn (tgt := 117) hx hb dX12_orderValue_1 (by rw [q32]; decide +kernel) (by rw [q32]; decide +kernel) (by rw [q32]; rfl) (by decide) ?_
    refine lv_aload_n hx hb dX12_orderValue_117 rfl (lv_at hl 0 rfl) ?_
    refine va_get (D := D) (ci := 12) (v := .int (f 27)) (C := RX12) (T := TX12) (N := 48) hx hb hg inC12 hown hK hP 0 rfl rfl 27 (by decide) (hg _ wt5_187) (fun _ h9 => h9) rfl dX12_orderValue_118 ?_
    refine lv_topi (fun t34 et34 => ?_)
    exact kI_ret (v := t34) hx hb hr hlocks rfl hK hS dX12_orderValue_121 () hP hD ⟨(kb_any t34), (by rw [show mpL.getD x.toInt.toNat 0 = 2024 from by rw [q32]; decide +kernel, wx_2024, hp0.2.2.1]; exact congrArg Int32.toInt et34)⟩
  by_cases q35 : x = 20
  · have b36 : kb 20 x 20 := kb_eq q35 kc_20
    refine lv_tableIn (tgt := 122) hx hb dX12_orderValue_1 (by rw [q35]; decide +kernel) (by rw [q35]; decide +kernel) (by rw [q35]; rfl) (by decide) ?_
    refine lv_aload_n hx hb dX12_orderValue_122 rfl (lv_at hl 0 rfl) ?_
    refine va_get (D := D) (ci := 12) (v := .int (f 28)) (C := RX12) (T := TX12) (N := 48) hx hb hg inC12 hown hK hP 0 rfl rfl 28 (by decide) (hg _ wt5_188) (fun _ h9 => h9) rfl dX12_orderValue_123 ?_
    refine lv_topi (fun t37 et37 => ?_)
    exact kI_ret (v := t37) hx hb hr hlocks rfl hK hS dX12_orderValue_126 () hP hD ⟨(kb_any t37), (by rw [show mpL.getD x.toInt.toNat 0 = 2025 from by rw [q35]; decide +kernel, wx_2025, hp0.2.2.2.1]; exact congrArg Int32.toInt et37)⟩
  by_cases q38 : x = 21
  · have b39 : kb 21 x 21 := kb_eq q38 kc_21
    refine lv_tableIn (tgt := 127) hx hb dX12_orderValue_1 (by rw [q38]; decide +kernel) (by rw [q38]; decide +kernel) (by rw [q38]; rfl) (by decide) ?_
    refine lv_aload_n hx hb dX12_orderValue_127 rfl (lv_at hl 0 rfl) ?_
    refine kI.callV (As := []) (rest := []) ⟨hx, hb, hml, hown, hg⟩ (n_standing l o r f a g hI   hp0.1) (cwV 0 hg (kgV wt6_116 wt6_118 wp3_13 wt1_14 wt6_119) rfl rfl rfl (by decide +kernel) ⟨by decide, by decide⟩) hK hP hD hS hA mIs [] rfl (wr := []) rfl rfl rfl (fun i h => by cases h) 0 12 rfl rfl rfl hl.1 rfl (Nat.le_of_ble_eq_true rfl) dX12_orderValue_128 ⟨Nat.le_refl _, Nat.le_refl _⟩ (fun v41 u42 H locs hw40 hP hD hS => ?_)
    have hP : va_P D vwCl (mW K o r f a g) H := hP
    have hD : va_D A (mW K o r f a g) := hD
    refine kN.callS (As := [.int v41]) (rest := []) ⟨hx, hb, hml, hown, hg⟩ (n_ones l v41 hw40.1) (va_cwS 1 hg (kgS wt7_71 wt7_72 wt1_14 wt7_73) rfl rfl rfl (by decide +kernel) ⟨by decide, by decide⟩) hP hS rfl hl.1 rfl (Nat.le_of_ble_eq_true rfl) dX12_orderValue_131 ⟨Nat.le_refl _, Nat.le_refl _⟩ (fun v44 H locs hw43 hP hS => ?_)
    exact kI_ret (v := v44) hx hb hr hlocks rfl hK hS dX12_orderValue_134 () hP hD ⟨(kb_w hw43.1 (by decide) (by decide)), (by rw [show mpL.getD x.toInt.toNat 0 = 2026 from by rw [q38]; decide +kernel, wx_2026, hp0.2.2.2.2.1]; have w1 := hw43.2; rw [hw40.2] at w1; exact w1)⟩
  by_cases q46 : x = 22
  · have b47 : kb 22 x 22 := kb_eq q46 kc_22
    refine lv_tableIn (tgt := 87) hx hb dX12_orderValue_1 (by rw [q46]; decide +kernel) (by rw [q46]; decide +kernel) (by rw [q46]; rfl) (by decide) ?_
    have yb9 := (hp1.2 (Or.inr q46))
    have b48 : kb 0 y 5 := yb9
    refine lv_aload_n hx hb dX12_orderValue_87 rfl (lv_at hl 0 rfl) ?_
    refine lv_iload_n hx hb dX12_orderValue_88 rfl (lv_at hl 2 rfl) ?_
    refine kI.callV (As := [.int y]) (rest := []) ⟨hx, hb, hml, hown, hg⟩ (m_isBuilder l o r f a g hI y  ) (cwV 1 hg (kgV wt6_138 wt6_140 wp3_15 wt1_14 wt6_141) rfl rfl rfl (by decide +kernel) ⟨by decide, by decide⟩) hK hP hD hS hA mIs [] rfl (wr := []) rfl rfl rfl (fun i h => by cases h) 0 12 rfl rfl rfl hl.1 rfl (Nat.le_of_ble_eq_true rfl) dX12_orderValue_89 ⟨Nat.le_refl _, Nat.le_refl _⟩ (fun v50 u51 H locs hw49 hP hD hS => ?_)
    have hP : va_P D vwCl (mW K o r f a g) H := hP
    have hD : va_D A (mW K o r f a g) := hD
    refine lv_if_eq (tgt := 107) hx hb dX12_orderValue_92 (by decide) (fun c52 => ?_) (fun c52 => ?_)
    · have b53 : kb 0 v50 0 := kb_eq c52 kc_0
      refine lv_iconst (v := (-1)) hx hb dX12_orderValue_107 (by decide) ?_
      exact kI_ret (v := (-1)) hx hb hr hlocks rfl hK hS dX12_orderValue_108 () hP hD ⟨(kb_w kc_m1 (by decide) (by decide)), (by rw [show mpL.getD x.toInt.toNat 0 = 2027 from by rw [q46]; decide +kernel, wx_2027, hp0.2.2.2.2.2.2.2 _ (by have w3 := (yb9).1; have w4 := (yb9).2; omega), if_neg (fun z => (hw49.2.2 c52) ⟨by have w3 := (yb9).1; have w4 := (yb9).2; omega, by have w3 := (yb9).1; have w4 := (yb9).2; omega⟩)]; decide +kernel)⟩
    · have b54 : kb 1 v50 1 := kr_nel c52 hw49.1 kc_0 (by decide)
      have h55 := hw49.2.1 c52
      have b56 : kb 0 y 5 := ⟨by have h1 := h55.1; omega, b48.2⟩
      refine lv_aload_n hx hb dX12_orderValue_95 rfl (lv_at hl 0 rfl) ?_
      refine va_get (D := D) (ci := 12) (v := .ref (r 2)) (C := RX12) (T := TX12) (N := 48) hx hb hg inC12 hown hK hP 0 rfl rfl 2 (by decide) (hg _ wt5_162) (fun _ h9 => h9) rfl dX12_orderValue_96 ?_
      refine lv_bipush (v := 16) hx hb dX12_orderValue_99 (by decide) ?_
      refine lv_iload_n hx hb dX12_orderValue_101 rfl (lv_at hl 2 rfl) ?_
      refine lv_iadd hx hb dX12_orderValue_102 ?_
      refine lv_topi (fun t57 et57 => ?_)
      have b58 : kb 16 t57 21 := kb_eq et57 (kb_add kc_16 b56 (by decide) (by decide))
      have qt57 : t57.toInt = 16 + y.toInt := by rw [et57]; exact kt_cadd kc_16 b56 (by decide) (by decide)
      refine va_iald hx hb hK hP 2 0 rfl rfl (kb_in b58 (by decide) (by decide)) dX12_orderValue_103 ?_
      refine lv_topi (fun t59 et59 => ?_)
      have b60 : kb (-1) t59 9 := kb_eq et59 (aI_ld hI.2.1 2 16 6 b58 (by decide) (by decide) (by decide +kernel))
      refine lv_goto (tgt := 108) hx hb dX12_orderValue_104 (by decide) ?_
      exact kI_ret (v := t59) hx hb hr hlocks rfl hK hS dX12_orderValue_108 () hP hD ⟨(kb_w b60 (by decide) (by decide)), (by rw [show mpL.getD x.toInt.toNat 0 = 2027 from by rw [q46]; decide +kernel, wx_2027, hp0.2.2.2.2.2.2.2 _ (by have w3 := (yb9).1; have w4 := (yb9).2; omega), if_pos (by have w5 := h55; have w3 := (yb9).1; have w4 := (yb9).2; omega)]; exact congrArg Int32.toInt (show t59 = a 2 (16 + y.toNatClampNeg) from et59.trans (congrArg (a 2) (show t57.toNatClampNeg = _ from by have w1 := qt57; have w2 := (b56).1; unfold Int32.toNatClampNeg; omega))))⟩
  refine lv_tableOut (tgt := 127) hx hb dX12_orderValue_1 (by have gq1 := lv_neT q1 (a := 16) (by decide +kernel); have gq14 := lv_neT q14 (a := 17) (by decide +kernel); have gq29 := lv_neT q29 (a := 18) (by decide +kernel); have gq32 := lv_neT q32 (a := 19) (by decide +kernel); have gq35 := lv_neT q35 (a := 20) (by decide +kernel); have gq38 := lv_neT q38 (a := 21) (by decide +kernel); have gq46 := lv_neT q46 (a := 22) (by decide +kernel); omega) (by decide) ?_
  refine lv_aload_n hx hb dX12_orderValue_127 rfl (lv_at hl 0 rfl) ?_
  refine kI.callV (As := []) (rest := []) ⟨hx, hb, hml, hown, hg⟩ (n_standing l o r f a g hI   hp0.1) (cwV 0 hg (kgV wt6_116 wt6_118 wp3_13 wt1_14 wt6_119) rfl rfl rfl (by decide +kernel) ⟨by decide, by decide⟩) hK hP hD hS hA mIs [] rfl (wr := []) rfl rfl rfl (fun i h => by cases h) 0 12 rfl rfl rfl hl.1 rfl (Nat.le_of_ble_eq_true rfl) dX12_orderValue_128 ⟨Nat.le_refl _, Nat.le_refl _⟩ (fun v62 u63 H locs hw61 hP hD hS => ?_)
  have hP : va_P D vwCl (mW K o r f a g) H := hP
  have hD : va_D A (mW K o r f a g) := hD
  refine kN.callS (As := [.int v62]) (rest := []) ⟨hx, hb, hml, hown, hg⟩ (n_ones l v62 hw61.1) (va_cwS 1 hg (kgS wt7_71 wt7_72 wt1_14 wt7_73) rfl rfl rfl (by decide +kernel) ⟨by decide, by decide⟩) hP hS rfl hl.1 rfl (Nat.le_of_ble_eq_true rfl) dX12_orderValue_131 ⟨Nat.le_refl _, Nat.le_refl _⟩ (fun v65 H locs hw64 hP hS => ?_)
  exact kI_ret (v := v65) hx hb hr hlocks rfl hK hS dX12_orderValue_134 () hP hD ⟨(kb_w hw64.1 (by decide) (by decide)), (by rw [show mpL.getD x.toInt.toNat 0 = 2026 from by rw [(show x = 21 from Int32.toInt_inj.mp (by have w0 : (21 : Int32).toInt = 21 := (by decide +kernel); have b1 := bx.1; have b2 := bx.2; have w16 : ¬ x.toInt = 16 := (fun z => q1 (Int32.toInt_inj.mp (z.trans (by decide +kernel)))); have w17 : ¬ x.toInt = 17 := (fun z => q14 (Int32.toInt_inj.mp (z.trans (by decide +kernel)))); have w18 : ¬ x.toInt = 18 := (fun z => q29 (Int32.toInt_inj.mp (z.trans (by decide +kernel)))); have w19 : ¬ x.toInt = 19 := (fun z => q32 (Int32.toInt_inj.mp (z.trans (by decide +kernel)))); have w20 : ¬ x.toInt = 20 := (fun z => q35 (Int32.toInt_inj.mp (z.trans (by decide +kernel)))); have w21 : ¬ x.toInt = 21 := (fun z => q38 (Int32.toInt_inj.mp (z.trans (by decide +kernel)))); have w22 : ¬ x.toInt = 22 := (fun z => q46 (Int32.toInt_inj.mp (z.trans (by decide +kernel)))); omega))]; decide +kernel, wx_2026, hp0.2.2.2.2.1]; have w1 := hw64.2; rw [hw61.2] at w1; exact w1)⟩
set_option maxHeartbeats 4000000 in
set_option maxRecDepth 100000 in
theorem n_sumOf (d : Nat) (hterm : nTerm d) (l : Launch) {D : va_G} {K : Nat → ClassId} (o : Nat) (r : Nat → Nat) (f : Nat → Int32) (a : Nat → Nat → Int32) (g : Nat → Int64) (hI : mI f a) (lv : Int32) (blv : kb 0 lv 1) (t i j : Nat) (ob : Bool) (T : Nat → Int32) (Ws : Nat → Int) (v_ : eV) (hp0 : eS f a t ob) (hp1 : (f 22).toInt = 400 * (t : Int) + (i : Int)) (hp2 : tQ (a 2) t T) (hp3 : wQ ob Ws f a) (hp4 : eG ob T d 0 i e1 j v_) : kL l yX12_sumOf (Cond.code yX12_sumOf cX12_sumOf 7 (some .long) :: kG) (rmD (3 * d + 8) 0 0) D (tysK K) [.ref o, .int lv] (mW K o r f a g) (fun v (u : Nat → Int32) => kbl (-9223372036854775808) v 9223372036854775807 ∧ mI u a ∧ fE [22, 24] f u ∧ (u 22).toInt = 400 * (t : Int) + (j : Int) ∧ mRs lv (f 24) (v_ Ws) (u 24) v.toInt) (fun u => mW K o r u a g) 0 0 := by
  refine kL.of (cc := cX12_sumOf) (maxL := 7) (ret := (some .long)) (by decide) rfl (Nat.le_of_ble_eq_true rfl) ?_
  intro p e s m below meth c A hx hb hr hml hown hts hlocks hnm hK hP hD hS hA ls hl
  have hE : fE [22, 24] f f := fE_rf
  have hg : ∀ w ∈ kG, w.before _ s = true := fun w h => hts w (List.mem_cons_of_mem _ h)
  have hown : s.vm.findClass RX12 = some m.cls := hown
  have hl : lv_has ls 7 [(0, .ref o), (1, .int lv)] := hl
  obtain ⟨c22, ec22⟩ : ∃ z : Int32, z = f 22 := ⟨_, rfl⟩
  have hg0 : c22.toInt = 400 * (t : Int) + (i : Int) := by rw [ec22]; exact hp1
  obtain ⟨cb, ecb⟩ : ∃ z : Int32, z = f 24 := ⟨_, rfl⟩
  have b1 : kb 0 cb 1 := kb_eq ecb (fI_at hI.1 24 (by decide) (by decide))
  obtain ⟨m0, w0, hm1, n0, hn0⟩ := eG_out hp4
  refine lv_aload_n hx hb dX12_sumOf_0 rfl (lv_at hl 0 rfl) ?_
  refine lv_iload_n hx hb dX12_sumOf_1 rfl (lv_at hl 1 rfl) ?_
  refine kL.callV (As := [.int lv]) (rest := []) ⟨hx, hb, hml, hown, hg⟩ (hterm l o r f a g hI lv blv t (i) (m0) ob T Ws w0 (eS_fE hE hp0 (by decide) (by decide)) (by rw [ec22.symm]; exact hg0) hp2 (wQ_fE hE hp3 (by decide) (by decide)) hm1) (cwV 1 hg (kgV wt7_55 wt7_57 wp5_10 wt1_14 wt7_58) rfl rfl rfl (by decide +kernel) ⟨by dsimp only [rmD]; omega, by dsimp only [rmD]; omega⟩) hK hP hD hS hA mIs [] rfl (wr := []) rfl rfl rfl (fun i h => by cases h) 0 12 rfl rfl rfl hl.1 rfl (Nat.le_of_ble_eq_true rfl) dX12_sumOf_2 ⟨Nat.le_refl _, Nat.le_refl _⟩ (fun v3 u4 H locs hw2 hP hD hS => ?_)
  have hP : va_P D vwCl (mW K o r u4 a g) H := hP
  have hD : va_D A (mW K o r u4 a g) := hD
  have hI : mI u4 a := hw2.2.1
  have eE5 : fE [22, 24] f u4 := hw2.2.2.1
  have hE : fE [22, 24] f u4 := fE_tr hE eE5
  obtain ⟨gv6, egv6⟩ : ∃ z : Int32, z = u4 22 := ⟨_, rfl⟩
  have hg7 : gv6.toInt = 400 * (t : Int) + ((m0 : Nat) : Int) := by rw [egv6]; exact hw2.2.2.2.1
  obtain ⟨bq8, ebq8⟩ : ∃ z : Int32, z = u4 24 := ⟨_, rfl⟩
  have b9 : kb 0 bq8 1 := kb_eq ebq8 (fI_at hI.1 24 (by decide) (by decide))
  have hr10 : mRs lv cb (w0 Ws) bq8 v3.toInt := by have w1 := hw2.2.2.2.2; rw [ecb.symm, ← ebq8] at w1; exact w1
  refine lv_lstore_n (lv' := [(2, .long v3), (0, .ref o), (1, .int lv)]) hx hb dX12_sumOf_5 rfl hl (by decide) rfl (fun ls hl => ?_)
  have lp13 : ∀ (n14 : Nat) (i6 : Nat) (xv : eV) (F12 : Nat → Int32) (H : Heap) (locs : List Loc) (ls : Array Slot) (y11 : Int64), (ee ob T n14 d 6 i6 xv j v_) → (mI F12 a) → (fE [22, 24] f F12) → ((F12 22).toInt = 400 * (t : Int) + (i6 : Int)) → (mRs lv cb (xv Ws) (F12 24) y11.toInt) → va_P D vwCl (mW K o r F12 a g) H → va_D A (mW K o r F12 a g) → va_S A s.heap H locs → lv_has ls 7 [(2, .long y11), (0, .ref o), (1, .int lv)] → W p l e (rmD (3 * d + 8) 0 0) s m ([.ref o, .int lv] : List Value).toArray below meth c H locs 0 0 (kQl D (tysK K) (fun v (u : Nat → Int32) => kbl (-9223372036854775808) v 9223372036854775807 ∧ mI u a ∧ fE [22, 24] f u ∧ (u 22).toInt = 400 * (t : Int) + (j : Int) ∧ mRs lv (f 24) (v_ Ws) (u 24) v.toInt) (fun u => mW K o r u a g) A below ([.ref o, .int lv] : List Value).toArray s 0 0) (F0 m 6 ls []) := by
    intro n14
    induction n14 with
    | zero =>
      intro i6 xv F12  H locs ls y11 hmlp13 hI hE hvlp13_0 hvlp13_1 hP hD hS hl
      exact (hmlp13 : False).elim
    | succ n14 ihlp13 =>
      intro i6 xv F12  H locs ls y11 hmlp13 hI hE hvlp13_0 hvlp13_1 hP hD hS hl
      obtain ⟨gv15, egv15⟩ : ∃ z : Int32, z = F12 22 := ⟨_, rfl⟩
      have hg16 : gv15.toInt = 400 * (t : Int) + ((i6 : Nat) : Int) := by rw [egv15]; exact hvlp13_0
      obtain ⟨bq17, ebq17⟩ : ∃ z : Int32, z = F12 24 := ⟨_, rfl⟩
      have b18 : kb 0 bq17 1 := kb_eq ebq17 (fI_at hI.1 24 (by decide) (by decide))
      have hacc : mRs lv cb (xv Ws) bq17 y11.toInt := by rw [ebq17]; exact hvlp13_1
      rcases ee_out hmlp13 with ⟨h1, hj, hvx⟩ | ⟨h1 | h1, mm, ww, ht, h6⟩
      · refine lv_aload_n hx hb dX12_sumOf_6 rfl (lv_at hl 1 rfl) ?_
        refine lv_aload_n hx hb dX12_sumOf_7 rfl (lv_at hl 1 rfl) ?_
        refine va_get (D := D) (ci := 12) (v := .int (F12 22)) (C := RX12) (T := TX12) (N := 48) hx hb hg inC12 hown hK hP 0 rfl rfl 22 (by decide) (hg _ wt5_182) (fun _ h9 => h9) rfl dX12_sumOf_8 ?_
        refine k_top (z := gv15) egv15.symm ?_
        refine kI.callV (As := [.int gv15]) (rest := []) ⟨hx, hb, hml, hown, hg⟩ (m_codeAt l o r F12 a g hI gv15  t (i6) ob (eS_fE hE hp0 (by decide) (by decide)) hg16) (cwV 1 hg (kgV wt7_47 wt7_49 wp5_8 wt1_14 wt7_50) rfl rfl rfl (by decide +kernel) ⟨by dsimp only [rmD]; omega, by dsimp only [rmD]; omega⟩) hK hP hD hS hA mIs [] rfl (wr := []) rfl rfl rfl (fun i h => by cases h) 0 12 rfl rfl rfl hl.1 rfl (Nat.le_of_ble_eq_true rfl) dX12_sumOf_11 ⟨Nat.le_refl _, Nat.le_refl _⟩ (fun v20 u21 H locs hw19 hP hD hS => ?_)
        have hP : va_P D vwCl (mW K o r F12 a g) H := hP
        have hD : va_D A (mW K o r F12 a g) := hD
        refine lv_bipush (v := 43) hx hb dX12_sumOf_14 (by decide) ?_
        refine kN.callS (As := [.int 43]) (rest := [.int v20]) ⟨hx, hb, hml, hown, hg⟩ (m_sign l 43 (kb_w kc_43 (by decide) (by decide))) (va_cwS 1 hg (kgS wt6_220 wt6_221 wt1_14 wt6_222) rfl rfl rfl (by decide +kernel) ⟨by dsimp only [rmD]; omega, by dsimp only [rmD]; omega⟩) hP hS rfl hl.1 rfl (Nat.le_of_ble_eq_true rfl) dX12_sumOf_16 ⟨Nat.le_refl _, Nat.le_refl _⟩ (fun v23 H locs hw22 hP hS => ?_)
        refine k_top (z := 143) (Int32.toInt_inj.mp (hw22.2.trans (by decide +kernel))) ?_
        refine lv_icmp_eq (tgt := 38) hx hb dX12_sumOf_19 (by decide) (fun c25 => ?_) (fun c25 => ?_)
        · exact absurd c25 (fun q => (tq_n hp2 (x := 143) (y := 3043) (by decide +kernel) (by decide +kernel) (fun q => h1 (Or.inl q))) (hw19.2.symm.trans q))
        · refine lv_aload_n hx hb dX12_sumOf_22 rfl (lv_at hl 1 rfl) ?_
          refine lv_aload_n hx hb dX12_sumOf_23 rfl (lv_at hl 1 rfl) ?_
          refine va_get (D := D) (ci := 12) (v := .int (F12 22)) (C := RX12) (T := TX12) (N := 48) hx hb hg inC12 hown hK hP 0 rfl rfl 22 (by decide) (hg _ wt5_182) (fun _ h9 => h9) rfl dX12_sumOf_24 ?_
          refine k_top (z := gv15) egv15.symm ?_
          refine kI.callV (As := [.int gv15]) (rest := []) ⟨hx, hb, hml, hown, hg⟩ (m_codeAt l o r F12 a g hI gv15  t (i6) ob (eS_fE hE hp0 (by decide) (by decide)) hg16) (cwV 1 hg (kgV wt7_47 wt7_49 wp5_8 wt1_14 wt7_50) rfl rfl rfl (by decide +kernel) ⟨by dsimp only [rmD]; omega, by dsimp only [rmD]; omega⟩) hK hP hD hS hA mIs [] rfl (wr := []) rfl rfl rfl (fun i h => by cases h) 0 12 rfl rfl rfl hl.1 rfl (Nat.le_of_ble_eq_true rfl) dX12_sumOf_27 ⟨Nat.le_refl _, Nat.le_refl _⟩ (fun v27 u28 H locs hw26 hP hD hS => ?_)
          have hP : va_P D vwCl (mW K o r F12 a g) H := hP
          have hD : va_D A (mW K o r F12 a g) := hD
          refine lv_bipush (v := 45) hx hb dX12_sumOf_30 (by decide) ?_
          refine kN.callS (As := [.int 45]) (rest := [.int v27]) ⟨hx, hb, hml, hown, hg⟩ (m_sign l 45 (kb_w kc_45 (by decide) (by decide))) (va_cwS 1 hg (kgS wt6_220 wt6_221 wt1_14 wt6_222) rfl rfl rfl (by decide +kernel) ⟨by dsimp only [rmD]; omega, by dsimp only [rmD]; omega⟩) hP hS rfl hl.1 rfl (Nat.le_of_ble_eq_true rfl) dX12_sumOf_32 ⟨Nat.le_refl _, Nat.le_refl _⟩ (fun v30 H locs hw29 hP hS => ?_)
          refine k_top (z := 145) (Int32.toInt_inj.mp (hw29.2.trans (by decide +kernel))) ?_
          refine lv_icmp_ne (tgt := 103) hx hb dX12_sumOf_35 (by decide) (fun c32 => ?_) (fun c32 => ?_)
          · refine lv_lload_n hx hb dX12_sumOf_103 rfl (lv_at hl 0 rfl) ?_
            exact kL_ret (v := y11) hx hb hr hlocks hK hS dX12_sumOf_104 F12 hP hD ⟨(kbl_any y11), hI, hE, (by rw [egv15.symm, hg16]; omega), (by show mRs lv (f 24) (v_ Ws) (F12 24) (y11 : Int64).toInt; rw [ebq17.symm, ← ecb]; exact (by rw [hvx]; exact hacc))⟩
          · exact absurd c32 (fun q => (tq_n hp2 (x := 145) (y := 3045) (by decide +kernel) (by decide +kernel) (fun q => h1 (Or.inr q))) (hw26.2.symm.trans q))
      · have b33 : kb 0 gv15 2799 := kb_go (eS_fE hE hp0 (by decide) (by decide)) (mC_lt (eS_fE hE hp0 (by decide) (by decide)) (ne_0 (tq_y hp2 (x := 143) (y := 3043) (by decide +kernel) (by decide +kernel) h1) (by decide +kernel))) hg16
        refine lv_aload_n hx hb dX12_sumOf_6 rfl (lv_at hl 1 rfl) ?_
        refine lv_aload_n hx hb dX12_sumOf_7 rfl (lv_at hl 1 rfl) ?_
        refine va_get (D := D) (ci := 12) (v := .int (F12 22)) (C := RX12) (T := TX12) (N := 48) hx hb hg inC12 hown hK hP 0 rfl rfl 22 (by decide) (hg _ wt5_182) (fun _ h9 => h9) rfl dX12_sumOf_8 ?_
        refine k_top (z := gv15) egv15.symm ?_
        refine kI.callV (As := [.int gv15]) (rest := []) ⟨hx, hb, hml, hown, hg⟩ (m_codeAt l o r F12 a g hI gv15  t (i6) ob (eS_fE hE hp0 (by decide) (by decide)) hg16) (cwV 1 hg (kgV wt7_47 wt7_49 wp5_8 wt1_14 wt7_50) rfl rfl rfl (by decide +kernel) ⟨by dsimp only [rmD]; omega, by dsimp only [rmD]; omega⟩) hK hP hD hS hA mIs [] rfl (wr := []) rfl rfl rfl (fun i h => by cases h) 0 12 rfl rfl rfl hl.1 rfl (Nat.le_of_ble_eq_true rfl) dX12_sumOf_11 ⟨Nat.le_refl _, Nat.le_refl _⟩ (fun v35 u36 H locs hw34 hP hD hS => ?_)
        have hP : va_P D vwCl (mW K o r F12 a g) H := hP
        have hD : va_D A (mW K o r F12 a g) := hD
        refine k_top (z := 143) (hw34.2.trans (tq_y hp2 (x := 143) (y := 3043) (by decide +kernel) (by decide +kernel) h1)) ?_
        refine lv_bipush (v := 43) hx hb dX12_sumOf_14 (by decide) ?_
        refine kN.callS (As := [.int 43]) (rest := [.int 143]) ⟨hx, hb, hml, hown, hg⟩ (m_sign l 43 (kb_w kc_43 (by decide) (by decide))) (va_cwS 1 hg (kgS wt6_220 wt6_221 wt1_14 wt6_222) rfl rfl rfl (by decide +kernel) ⟨by dsimp only [rmD]; omega, by dsimp only [rmD]; omega⟩) hP hS rfl hl.1 rfl (Nat.le_of_ble_eq_true rfl) dX12_sumOf_16 ⟨Nat.le_refl _, Nat.le_refl _⟩ (fun v38 H locs hw37 hP hS => ?_)
        refine k_top (z := 143) (Int32.toInt_inj.mp (hw37.2.trans (by decide +kernel))) ?_
        refine lv_icmp_eq (tgt := 38) hx hb dX12_sumOf_19 (by decide) (fun c40 => ?_) (fun c40 => ?_)
        · refine lv_aload_n hx hb dX12_sumOf_38 rfl (lv_at hl 1 rfl) ?_
          refine lv_aload_n hx hb dX12_sumOf_39 rfl (lv_at hl 1 rfl) ?_
          refine va_get (D := D) (ci := 12) (v := .int (F12 22)) (C := RX12) (T := TX12) (N := 48) hx hb hg inC12 hown hK hP 0 rfl rfl 22 (by decide) (hg _ wt5_182) (fun _ h9 => h9) rfl dX12_sumOf_40 ?_
          refine k_top (z := gv15) egv15.symm ?_
          refine kI.callV (As := [.int gv15]) (rest := []) ⟨hx, hb, hml, hown, hg⟩ (m_codeAt l o r F12 a g hI gv15  t (i6) ob (eS_fE hE hp0 (by decide) (by decide)) hg16) (cwV 1 hg (kgV wt7_47 wt7_49 wp5_8 wt1_14 wt7_50) rfl rfl rfl (by decide +kernel) ⟨by dsimp only [rmD]; omega, by dsimp only [rmD]; omega⟩) hK hP hD hS hA mIs [] rfl (wr := []) rfl rfl rfl (fun i h => by cases h) 0 12 rfl rfl rfl hl.1 rfl (Nat.le_of_ble_eq_true rfl) dX12_sumOf_43 ⟨Nat.le_refl _, Nat.le_refl _⟩ (fun v42 u43 H locs hw41 hP hD hS => ?_)
          have hP : va_P D vwCl (mW K o r F12 a g) H := hP
          have hD : va_D A (mW K o r F12 a g) := hD
          refine k_top (z := 143) (hw41.2.trans (tq_y hp2 (x := 143) (y := 3043) (by decide +kernel) (by decide +kernel) h1)) ?_
          refine lv_bipush (v := 43) hx hb dX12_sumOf_46 (by decide) ?_
          refine kN.callS (As := [.int 43]) (rest := [.int 143]) ⟨hx, hb, hml, hown, hg⟩ (m_sign l 43 (kb_w kc_43 (by decide) (by decide))) (va_cwS 1 hg (kgS wt6_220 wt6_221 wt1_14 wt6_222) rfl rfl rfl (by decide +kernel) ⟨by dsimp only [rmD]; omega, by dsimp only [rmD]; omega⟩) hP hS rfl hl.1 rfl (Nat.le_of_ble_eq_true rfl) dX12_sumOf_48 ⟨Nat.le_refl _, Nat.le_refl _⟩ (fun v45 H locs hw44 hP hS => ?_)
          refine k_top (z := 143) (Int32.toInt_inj.mp (hw44.2.trans (by decide +kernel))) ?_
          refine lv_icmp_ne (tgt := 58) hx hb dX12_sumOf_51 (by decide) (fun c47 => ?_) (fun c47 => ?_)
          · exact kb_nsame c47 kc_143 kc_143
          · refine lv_iconst (v := 1) hx hb dX12_sumOf_54 (by decide) ?_
            refine lv_goto (tgt := 59) hx hb dX12_sumOf_55 (by decide) ?_
            refine lv_istore (lv' := [(4, .int 1), (2, .long y11), (0, .ref o), (1, .int lv)]) hx hb dX12_sumOf_59 hl (by decide) rfl (fun ls hl => ?_)
            refine lv_aload_n hx hb dX12_sumOf_61 rfl (lv_at hl 2 rfl) ?_
            refine lv_dup hx hb dX12_sumOf_62 rfl ?_
            refine va_get (D := D) (ci := 12) (v := .int (F12 22)) (C := RX12) (T := TX12) (N := 48) hx hb hg inC12 hown hK hP 0 rfl rfl 22 (by decide) (hg _ wt5_182) (fun _ h9 => h9) rfl dX12_sumOf_63 ?_
            refine k_top (z := gv15) egv15.symm ?_
            refine lv_iconst (v := 1) hx hb dX12_sumOf_66 (by decide) ?_
            refine lv_iadd hx hb dX12_sumOf_67 ?_
            refine lv_topi (fun t48 et48 => ?_)
            have b49 : kb 1 t48 2800 := kb_eq et48 (kb_add b33 kc_1 (by decide) (by decide))
            have qt48 : t48.toInt = gv15.toInt + 1 := by rw [et48]; exact kt_addc b33 kc_1 (by decide) (by decide)
            have hg50 : t48.toInt = 400 * (t : Int) + ((i6 + 1 : Nat) : Int) := by rw [qt48, hg16]; omega
            refine va_put (D := D) (ci := 12) (v := .int t48) (ty := .int) (C := RX12) (T := TX12) (N := 48) hx hb hg inC12 tyX12 tyX12_ok nmX12 hown hK hP hD hS 0 rfl rfl 22 (by decide) (hg _ wt5_182) (fun _ h9 => h9) rfl (by decide +kernel) rfl rfl (Nat.le_of_ble_eq_true rfl) dX12_sumOf_68 (fun H locs hP hD hS => ?_)
            have hP : va_P D vwCl (mW K o r (upd F12 22 t48) a g) H := hP
            have hD : va_D A (mW K o r (upd F12 22 t48) a g) := hD
            refine k_gen (P := fun z => va_P D vwCl (mW K o r z a g) H ∧ va_D A (mW K o r z a g) ∧ (mI z a) ∧ (fE [22, 24] f z)) (upd F12 22 t48) ⟨hP, hD, (mI_f hI (fI_st hI.1 22 (kb_any _) (by decide) (by decide))), (fE_f hE (by decide))⟩ (fun f_51 ef_51 hq => ?_)
            obtain ⟨hP, hD, hI, hE⟩ := hq
            refine lv_aload_n hx hb dX12_sumOf_71 rfl (lv_at hl 2 rfl) ?_
            refine lv_iload_n hx hb dX12_sumOf_72 rfl (lv_at hl 3 rfl) ?_
            refine kL.callV (As := [.int lv]) (rest := []) ⟨hx, hb, hml, hown, hg⟩ (hterm l o r f_51 a g hI lv blv t (i6 + 1) (mm) ob T Ws ww (eS_fE hE hp0 (by decide) (by decide)) (by rw [(show f_51 22 = t48 from by rw [← ef_51]; rfl)]; exact hg50) hp2 (wQ_fE hE hp3 (by decide) (by decide)) (eG_of ht)) (cwV 1 hg (kgV wt7_55 wt7_57 wp5_10 wt1_14 wt7_58) rfl rfl rfl (by decide +kernel) ⟨by dsimp only [rmD]; omega, by dsimp only [rmD]; omega⟩) hK hP hD hS hA mIs [] rfl (wr := []) rfl rfl rfl (fun i h => by cases h) 0 12 rfl rfl rfl hl.1 rfl (Nat.le_of_ble_eq_true rfl) dX12_sumOf_73 ⟨Nat.le_refl _, Nat.le_refl _⟩ (fun v53 u54 H locs hw52 hP hD hS => ?_)
            have hP : va_P D vwCl (mW K o r u54 a g) H := hP
            have hD : va_D A (mW K o r u54 a g) := hD
            have hI : mI u54 a := hw52.2.1
            have eE55 : fE [22, 24] f_51 u54 := hw52.2.2.1
            have hE : fE [22, 24] f u54 := fE_tr hE eE55
            obtain ⟨gv56, egv56⟩ : ∃ z : Int32, z = u54 22 := ⟨_, rfl⟩
            have hg57 : gv56.toInt = 400 * (t : Int) + ((mm : Nat) : Int) := by rw [egv56]; exact hw52.2.2.2.1
            obtain ⟨bq58, ebq58⟩ : ∃ z : Int32, z = u54 24 := ⟨_, rfl⟩
            have b59 : kb 0 bq58 1 := kb_eq ebq58 (fI_at hI.1 24 (by decide) (by decide))
            have hr60 : mRs lv bq17 (ww Ws) bq58 v53.toInt := by have w1 := hw52.2.2.2.2; rw [((show f_51 24 = F12 24 from by rw [← ef_51]; rfl).trans ebq17.symm), ← ebq58] at w1; exact w1
            refine lv_lstore (lv' := [(5, .long v53), (4, .int 1), (2, .long y11), (0, .ref o), (1, .int lv)]) hx hb dX12_sumOf_76 hl (by decide) rfl (fun ls hl => ?_)
            refine lv_aload_n hx hb dX12_sumOf_78 rfl (lv_at hl 3 rfl) ?_
            refine lv_iload hx hb dX12_sumOf_79 (lv_at hl 1 rfl) ?_
            refine lv_if_eq (tgt := 91) hx hb dX12_sumOf_81 (by decide) (fun c61 => ?_) (fun c61 => ?_)
            · exact kb_dj c61 kc_1 kc_0 (by decide)
            · refine lv_lload_n hx hb dX12_sumOf_84 rfl (lv_at hl 2 rfl) ?_
              refine lv_lload hx hb dX12_sumOf_85 (lv_at hl 0 rfl) ?_
              refine lv_ladd hx hb dX12_sumOf_87 ?_
              refine lv_topl (fun t62 et62 => ?_)
              refine lv_goto (tgt := 95) hx hb dX12_sumOf_88 (by decide) ?_
              refine lv_iload_n hx hb dX12_sumOf_95 rfl (lv_at hl 4 rfl) ?_
              refine kL.callV (As := [.long t62, .int lv]) (rest := []) ⟨hx, hb, hml, hown, hg⟩ (n_bounded l o r u54 a g hI t62 lv blv ) (cwV 2 hg (kgV wt7_74 wt7_76 wp5_14 wt1_14 wt7_77) rfl rfl rfl (by decide +kernel) ⟨by dsimp only [rmD]; omega, by dsimp only [rmD]; omega⟩) hK hP hD hS hA mIs [] rfl (wr := []) rfl rfl rfl (fun i h => by cases h) 0 12 rfl rfl rfl hl.1 rfl (Nat.le_of_ble_eq_true rfl) dX12_sumOf_96 ⟨Nat.le_refl _, Nat.le_refl _⟩ (fun v64 u65 H locs hw63 hP hD hS => ?_)
              have hP : va_P D vwCl (mW K o r u65 a g) H := hP
              have hD : va_D A (mW K o r u65 a g) := hD
              have hI : mI u65 a := hw63.2.1
              have eE66 : fE [24] u54 u65 := hw63.2.2.1
              have hE : fE [22, 24] f u65 := fE_tr hE (fE_w (by decide) eE66)
              obtain ⟨bq67, ebq67⟩ : ∃ z : Int32, z = u65 24 := ⟨_, rfl⟩
              have b68 : kb 0 bq67 1 := kb_eq ebq67 (fI_at hI.1 24 (by decide) (by decide))
              have hbd : bdR lv bq58 t62.toInt bq67 v64.toInt := by have w1 := hw63.2.2.2; rw [ebq58.symm, ← ebq67] at w1; exact w1
              refine lv_lstore_n (lv' := [(2, .long v64), (5, .long v53), (4, .int 1), (0, .ref o), (1, .int lv)]) hx hb dX12_sumOf_99 rfl hl (by decide) rfl (fun ls hl => ?_)
              refine lv_goto (tgt := 6) hx hb dX12_sumOf_100 (by decide) ?_
              exact ihlp13 (mm) (jnO (opC (T i6)) xv ww) u65 _ _ _ v64 (h6) hI hE (by rw [((eE66 22 (by decide)).trans egv56.symm)]; exact hg57) (by show mRs lv cb (jnO (opC (T i6)) xv ww Ws) (u65 24) v64.toInt; rw [ebq67.symm, show opC (T i6) = 5 from (by rw [h1]; decide +kernel)]; exact (m_jn (op := 5) hacc hr60 (fun _ _ => by rw [(show t62.toInt = y11.toInt + v53.toInt from by rw [et62]; exact l_add (mRs_o hacc) (mRs_o hr60))]; rfl) (fun p q => by rw [(show t62.toInt = y11.toInt + v53.toInt from by rw [et62]; exact l_add (mRs_o hacc) (mRs_o hr60)), p, q]; rfl) hbd)) hP hD hS (lv_sub hl [0, 3, 4] rfl)
        · exact kb_nsame c40 kc_143 kc_143
      · have b69 : kb 0 gv15 2799 := kb_go (eS_fE hE hp0 (by decide) (by decide)) (mC_lt (eS_fE hE hp0 (by decide) (by decide)) (ne_0 (tq_y hp2 (x := 145) (y := 3045) (by decide +kernel) (by decide +kernel) h1) (by decide +kernel))) hg16
        refine lv_aload_n hx hb dX12_sumOf_6 rfl (lv_at hl 1 rfl) ?_
        refine lv_aload_n hx hb dX12_sumOf_7 rfl (lv_at hl 1 rfl) ?_
        refine va_get (D := D) (ci := 12) (v := .int (F12 22)) (C := RX12) (T := TX12) (N := 48) hx hb hg inC12 hown hK hP 0 rfl rfl 22 (by decide) (hg _ wt5_182) (fun _ h9 => h9) rfl dX12_sumOf_8 ?_
        refine k_top (z := gv15) egv15.symm ?_
        refine kI.callV (As := [.int gv15]) (rest := []) ⟨hx, hb, hml, hown, hg⟩ (m_codeAt l o r F12 a g hI gv15  t (i6) ob (eS_fE hE hp0 (by decide) (by decide)) hg16) (cwV 1 hg (kgV wt7_47 wt7_49 wp5_8 wt1_14 wt7_50) rfl rfl rfl (by decide +kernel) ⟨by dsimp only [rmD]; omega, by dsimp only [rmD]; omega⟩) hK hP hD hS hA mIs [] rfl (wr := []) rfl rfl rfl (fun i h => by cases h) 0 12 rfl rfl rfl hl.1 rfl (Nat.le_of_ble_eq_true rfl) dX12_sumOf_11 ⟨Nat.le_refl _, Nat.le_refl _⟩ (fun v71 u72 H locs hw70 hP hD hS => ?_)
        have hP : va_P D vwCl (mW K o r F12 a g) H := hP
        have hD : va_D A (mW K o r F12 a g) := hD
        refine k_top (z := 145) (hw70.2.trans (tq_y hp2 (x := 145) (y := 3045) (by decide +kernel) (by decide +kernel) h1)) ?_
        refine lv_bipush (v := 43) hx hb dX12_sumOf_14 (by decide) ?_
        refine kN.callS (As := [.int 43]) (rest := [.int 145]) ⟨hx, hb, hml, hown, hg⟩ (m_sign l 43 (kb_w kc_43 (by decide) (by decide))) (va_cwS 1 hg (kgS wt6_220 wt6_221 wt1_14 wt6_222) rfl rfl rfl (by decide +kernel) ⟨by dsimp only [rmD]; omega, by dsimp only [rmD]; omega⟩) hP hS rfl hl.1 rfl (Nat.le_of_ble_eq_true rfl) dX12_sumOf_16 ⟨Nat.le_refl _, Nat.le_refl _⟩ (fun v74 H locs hw73 hP hS => ?_)
        refine k_top (z := 143) (Int32.toInt_inj.mp (hw73.2.trans (by decide +kernel))) ?_
        refine lv_icmp_eq (tgt := 38) hx hb dX12_sumOf_19 (by decide) (fun c76 => ?_) (fun c76 => ?_)
        · exact kb_dj c76 kc_145 kc_143 (by decide)
        · refine lv_aload_n hx hb dX12_sumOf_22 rfl (lv_at hl 1 rfl) ?_
          refine lv_aload_n hx hb dX12_sumOf_23 rfl (lv_at hl 1 rfl) ?_
          refine va_get (D := D) (ci := 12) (v := .int (F12 22)) (C := RX12) (T := TX12) (N := 48) hx hb hg inC12 hown hK hP 0 rfl rfl 22 (by decide) (hg _ wt5_182) (fun _ h9 => h9) rfl dX12_sumOf_24 ?_
          refine k_top (z := gv15) egv15.symm ?_
          refine kI.callV (As := [.int gv15]) (rest := []) ⟨hx, hb, hml, hown, hg⟩ (m_codeAt l o r F12 a g hI gv15  t (i6) ob (eS_fE hE hp0 (by decide) (by decide)) hg16) (cwV 1 hg (kgV wt7_47 wt7_49 wp5_8 wt1_14 wt7_50) rfl rfl rfl (by decide +kernel) ⟨by dsimp only [rmD]; omega, by dsimp only [rmD]; omega⟩) hK hP hD hS hA mIs [] rfl (wr := []) rfl rfl rfl (fun i h => by cases h) 0 12 rfl rfl rfl hl.1 rfl (Nat.le_of_ble_eq_true rfl) dX12_sumOf_27 ⟨Nat.le_refl _, Nat.le_refl _⟩ (fun v78 u79 H locs hw77 hP hD hS => ?_)
          have hP : va_P D vwCl (mW K o r F12 a g) H := hP
          have hD : va_D A (mW K o r F12 a g) := hD
          refine k_top (z := 145) (hw77.2.trans (tq_y hp2 (x := 145) (y := 3045) (by decide +kernel) (by decide +kernel) h1)) ?_
          refine lv_bipush (v := 45) hx hb dX12_sumOf_30 (by decide) ?_
          refine kN.callS (As := [.int 45]) (rest := [.int 145]) ⟨hx, hb, hml, hown, hg⟩ (m_sign l 45 (kb_w kc_45 (by decide) (by decide))) (va_cwS 1 hg (kgS wt6_220 wt6_221 wt1_14 wt6_222) rfl rfl rfl (by decide +kernel) ⟨by dsimp only [rmD]; omega, by dsimp only [rmD]; omega⟩) hP hS rfl hl.1 rfl (Nat.le_of_ble_eq_true rfl) dX12_sumOf_32 ⟨Nat.le_refl _, Nat.le_refl _⟩ (fun v81 H locs hw80 hP hS => ?_)
          refine k_top (z := 145) (Int32.toInt_inj.mp (hw80.2.trans (by decide +kernel))) ?_
          refine lv_icmp_ne (tgt := 103) hx hb dX12_sumOf_35 (by decide) (fun c83 => ?_) (fun c83 => ?_)
          · exact kb_nsame c83 kc_145 kc_145
          · refine lv_aload_n hx hb dX12_sumOf_38 rfl (lv_at hl 1 rfl) ?_
            refine lv_aload_n hx hb dX12_sumOf_39 rfl (lv_at hl 1 rfl) ?_
            refine va_get (D := D) (ci := 12) (v := .int (F12 22)) (C := RX12) (T := TX12) (N := 48) hx hb hg inC12 hown hK hP 0 rfl rfl 22 (by decide) (hg _ wt5_182) (fun _ h9 => h9) rfl dX12_sumOf_40 ?_
            refine k_top (z := gv15) egv15.symm ?_
            refine kI.callV (As := [.int gv15]) (rest := []) ⟨hx, hb, hml, hown, hg⟩ (m_codeAt l o r F12 a g hI gv15  t (i6) ob (eS_fE hE hp0 (by decide) (by decide)) hg16) (cwV 1 hg (kgV wt7_47 wt7_49 wp5_8 wt1_14 wt7_50) rfl rfl rfl (by decide +kernel) ⟨by dsimp only [rmD]; omega, by dsimp only [rmD]; omega⟩) hK hP hD hS hA mIs [] rfl (wr := []) rfl rfl rfl (fun i h => by cases h) 0 12 rfl rfl rfl hl.1 rfl (Nat.le_of_ble_eq_true rfl) dX12_sumOf_43 ⟨Nat.le_refl _, Nat.le_refl _⟩ (fun v85 u86 H locs hw84 hP hD hS => ?_)
            have hP : va_P D vwCl (mW K o r F12 a g) H := hP
            have hD : va_D A (mW K o r F12 a g) := hD
            refine k_top (z := 145) (hw84.2.trans (tq_y hp2 (x := 145) (y := 3045) (by decide +kernel) (by decide +kernel) h1)) ?_
            refine lv_bipush (v := 43) hx hb dX12_sumOf_46 (by decide) ?_
            refine kN.callS (As := [.int 43]) (rest := [.int 145]) ⟨hx, hb, hml, hown, hg⟩ (m_sign l 43 (kb_w kc_43 (by decide) (by decide))) (va_cwS 1 hg (kgS wt6_220 wt6_221 wt1_14 wt6_222) rfl rfl rfl (by decide +kernel) ⟨by dsimp only [rmD]; omega, by dsimp only [rmD]; omega⟩) hP hS rfl hl.1 rfl (Nat.le_of_ble_eq_true rfl) dX12_sumOf_48 ⟨Nat.le_refl _, Nat.le_refl _⟩ (fun v88 H locs hw87 hP hS => ?_)
            refine k_top (z := 143) (Int32.toInt_inj.mp (hw87.2.trans (by decide +kernel))) ?_
            refine lv_icmp_ne (tgt := 58) hx hb dX12_sumOf_51 (by decide) (fun c90 => ?_) (fun c90 => ?_)
            · refine lv_iconst (v := 0) hx hb dX12_sumOf_58 (by decide) ?_
              refine lv_istore (lv' := [(4, .int 0), (2, .long y11), (0, .ref o), (1, .int lv)]) hx hb dX12_sumOf_59 hl (by decide) rfl (fun ls hl => ?_)
              refine lv_aload_n hx hb dX12_sumOf_61 rfl (lv_at hl 2 rfl) ?_
              refine lv_dup hx hb dX12_sumOf_62 rfl ?_
              refine va_get (D := D) (ci := 12) (v := .int (F12 22)) (C := RX12) (T := TX12) (N := 48) hx hb hg inC12 hown hK hP 0 rfl rfl 22 (by decide) (hg _ wt5_182) (fun _ h9 => h9) rfl dX12_sumOf_63 ?_
              refine k_top (z := gv15) egv15.symm ?_
              refine lv_iconst (v := 1) hx hb dX12_sumOf_66 (by decide) ?_
              refine lv_iadd hx hb dX12_sumOf_67 ?_
              refine lv_topi (fun t91 et91 => ?_)
              have b92 : kb 1 t91 2800 := kb_eq et91 (kb_add b69 kc_1 (by decide) (by decide))
              have qt91 : t91.toInt = gv15.toInt + 1 := by rw [et91]; exact kt_addc b69 kc_1 (by decide) (by decide)
              have hg93 : t91.toInt = 400 * (t : Int) + ((i6 + 1 : Nat) : Int) := by rw [qt91, hg16]; omega
              refine va_put (D := D) (ci := 12) (v := .int t91) (ty := .int) (C := RX12) (T := TX12) (N := 48) hx hb hg inC12 tyX12 tyX12_ok nmX12 hown hK hP hD hS 0 rfl rfl 22 (by decide) (hg _ wt5_182) (fun _ h9 => h9) rfl (by decide +kernel) rfl rfl (Nat.le_of_ble_eq_true rfl) dX12_sumOf_68 (fun H locs hP hD hS => ?_)
              have hP : va_P D vwCl (mW K o r (upd F12 22 t91) a g) H := hP
              have hD : va_D A (mW K o r (upd F12 22 t91) a g) := hD
              refine k_gen (P := fun z => va_P D vwCl (mW K o r z a g) H ∧ va_D A (mW K o r z a g) ∧ (mI z a) ∧ (fE [22, 24] f z)) (upd F12 22 t91) ⟨hP, hD, (mI_f hI (fI_st hI.1 22 (kb_any _) (by decide) (by decide))), (fE_f hE (by decide))⟩ (fun f_94 ef_94 hq => ?_)
              obtain ⟨hP, hD, hI, hE⟩ := hq
              refine lv_aload_n hx hb dX12_sumOf_71 rfl (lv_at hl 2 rfl) ?_
              refine lv_iload_n hx hb dX12_sumOf_72 rfl (lv_at hl 3 rfl) ?_
              refine kL.callV (As := [.int lv]) (rest := []) ⟨hx, hb, hml, hown, hg⟩ (hterm l o r f_94 a g hI lv blv t (i6 + 1) (mm) ob T Ws ww (eS_fE hE hp0 (by decide) (by decide)) (by rw [(show f_94 22 = t91 from by rw [← ef_94]; rfl)]; exact hg93) hp2 (wQ_fE hE hp3 (by decide) (by decide)) (eG_of ht)) (cwV 1 hg (kgV wt7_55 wt7_57 wp5_10 wt1_14 wt7_58) rfl rfl rfl (by decide +kernel) ⟨by dsimp only [rmD]; omega, by dsimp only [rmD]; omega⟩) hK hP hD hS hA mIs [] rfl (wr := []) rfl rfl rfl (fun i h => by cases h) 0 12 rfl rfl rfl hl.1 rfl (Nat.le_of_ble_eq_true rfl) dX12_sumOf_73 ⟨Nat.le_refl _, Nat.le_refl _⟩ (fun v96 u97 H locs hw95 hP hD hS => ?_)
              have hP : va_P D vwCl (mW K o r u97 a g) H := hP
              have hD : va_D A (mW K o r u97 a g) := hD
              have hI : mI u97 a := hw95.2.1
              have eE98 : fE [22, 24] f_94 u97 := hw95.2.2.1
              have hE : fE [22, 24] f u97 := fE_tr hE eE98
              obtain ⟨gv99, egv99⟩ : ∃ z : Int32, z = u97 22 := ⟨_, rfl⟩
              have hg100 : gv99.toInt = 400 * (t : Int) + ((mm : Nat) : Int) := by rw [egv99]; exact hw95.2.2.2.1
              obtain ⟨bq101, ebq101⟩ : ∃ z : Int32, z = u97 24 := ⟨_, rfl⟩
              have b102 : kb 0 bq101 1 := kb_eq ebq101 (fI_at hI.1 24 (by decide) (by decide))
              have hr103 : mRs lv bq17 (ww Ws) bq101 v96.toInt := by have w1 := hw95.2.2.2.2; rw [((show f_94 24 = F12 24 from by rw [← ef_94]; rfl).trans ebq17.symm), ← ebq101] at w1; exact w1
              refine lv_lstore (lv' := [(5, .long v96), (4, .int 0), (2, .long y11), (0, .ref o), (1, .int lv)]) hx hb dX12_sumOf_76 hl (by decide) rfl (fun ls hl => ?_)
              refine lv_aload_n hx hb dX12_sumOf_78 rfl (lv_at hl 3 rfl) ?_
              refine lv_iload hx hb dX12_sumOf_79 (lv_at hl 1 rfl) ?_
              refine lv_if_eq (tgt := 91) hx hb dX12_sumOf_81 (by decide) (fun c104 => ?_) (fun c104 => ?_)
              · refine lv_lload_n hx hb dX12_sumOf_91 rfl (lv_at hl 2 rfl) ?_
                refine lv_lload hx hb dX12_sumOf_92 (lv_at hl 0 rfl) ?_
                refine lv_lsub hx hb dX12_sumOf_94 ?_
                refine lv_topl (fun t105 et105 => ?_)
                refine lv_iload_n hx hb dX12_sumOf_95 rfl (lv_at hl 4 rfl) ?_
                refine kL.callV (As := [.long t105, .int lv]) (rest := []) ⟨hx, hb, hml, hown, hg⟩ (n_bounded l o r u97 a g hI t105 lv blv ) (cwV 2 hg (kgV wt7_74 wt7_76 wp5_14 wt1_14 wt7_77) rfl rfl rfl (by decide +kernel) ⟨by dsimp only [rmD]; omega, by dsimp only [rmD]; omega⟩) hK hP hD hS hA mIs [] rfl (wr := []) rfl rfl rfl (fun i h => by cases h) 0 12 rfl rfl rfl hl.1 rfl (Nat.le_of_ble_eq_true rfl) dX12_sumOf_96 ⟨Nat.le_refl _, Nat.le_refl _⟩ (fun v107 u108 H locs hw106 hP hD hS => ?_)
                have hP : va_P D vwCl (mW K o r u108 a g) H := hP
                have hD : va_D A (mW K o r u108 a g) := hD
                have hI : mI u108 a := hw106.2.1
                have eE109 : fE [24] u97 u108 := hw106.2.2.1
                have hE : fE [22, 24] f u108 := fE_tr hE (fE_w (by decide) eE109)
                obtain ⟨bq110, ebq110⟩ : ∃ z : Int32, z = u108 24 := ⟨_, rfl⟩
                have b111 : kb 0 bq110 1 := kb_eq ebq110 (fI_at hI.1 24 (by decide) (by decide))
                have hbd : bdR lv bq101 t105.toInt bq110 v107.toInt := by have w1 := hw106.2.2.2; rw [ebq101.symm, ← ebq110] at w1; exact w1
                refine lv_lstore_n (lv' := [(2, .long v107), (5, .long v96), (4, .int 0), (0, .ref o), (1, .int lv)]) hx hb dX12_sumOf_99 rfl hl (by decide) rfl (fun ls hl => ?_)
                refine lv_goto (tgt := 6) hx hb dX12_sumOf_100 (by decide) ?_
                exact ihlp13 (mm) (jnO (opC (T i6)) xv ww) u108 _ _ _ v107 (h6) hI hE (by rw [((eE109 22 (by decide)).trans egv99.symm)]; exact hg100) (by show mRs lv cb (jnO (opC (T i6)) xv ww Ws) (u108 24) v107.toInt; rw [ebq110.symm, show opC (T i6) = 6 from (by rw [h1]; decide +kernel)]; exact (m_jn (op := 6) hacc hr103 (fun _ _ => by rw [(show t105.toInt = y11.toInt - v96.toInt from by rw [et105]; exact l_sub (mRs_o hacc) (mRs_o hr103))]; rfl) (fun p q => by rw [(show t105.toInt = y11.toInt - v96.toInt from by rw [et105]; exact l_sub (mRs_o hacc) (mRs_o hr103)), p, q]; rfl) hbd)) hP hD hS (lv_sub hl [0, 3, 4] rfl)
              · exact kb_nsame c104 kc_0 kc_0
            · exact kb_dj c90 kc_145 kc_143 (by decide)
  exact lp13 (n0) (m0) w0 u4 _ _ _ v3 (hn0) hI hE (by rw [egv6.symm]; exact hg7) (by show mRs lv cb (w0 Ws) (u4 24) _; rw [ebq8.symm]; exact hr10) hP hD hS (lv_sub hl [0, 1, 2] rfl)
set_option maxHeartbeats 4000000 in
set_option maxRecDepth 100000 in
theorem n_termOf (d : Nat) (hpart : nPart d) (l : Launch) {D : va_G} {K : Nat → ClassId} (o : Nat) (r : Nat → Nat) (f : Nat → Int32) (a : Nat → Nat → Int32) (g : Nat → Int64) (hI : mI f a) (lv : Int32) (blv : kb 0 lv 1) (t i j : Nat) (ob : Bool) (T : Nat → Int32) (Ws : Nat → Int) (v_ : eV) (hp0 : eS f a t ob) (hp1 : (f 22).toInt = 400 * (t : Int) + (i : Int)) (hp2 : tQ (a 2) t T) (hp3 : wQ ob Ws f a) (hp4 : eG ob T d 1 i e1 j v_) : kL l yX12_termOf (Cond.code yX12_termOf cX12_termOf 7 (some .long) :: kG) (rmD (3 * d + 7) 0 0) D (tysK K) [.ref o, .int lv] (mW K o r f a g) (fun v (u : Nat → Int32) => kbl (-9223372036854775808) v 9223372036854775807 ∧ mI u a ∧ fE [22, 24] f u ∧ (u 22).toInt = 400 * (t : Int) + (j : Int) ∧ mRs lv (f 24) (v_ Ws) (u 24) v.toInt) (fun u => mW K o r u a g) 0 0 := by
  refine kL.of (cc := cX12_termOf) (maxL := 7) (ret := (some .long)) (by decide) rfl (Nat.le_of_ble_eq_true rfl) ?_
  intro p e s m below meth c A hx hb hr hml hown hts hlocks hnm hK hP hD hS hA ls hl
  have hE : fE [22, 24] f f := fE_rf
  have hg : ∀ w ∈ kG, w.before _ s = true := fun w h => hts w (List.mem_cons_of_mem _ h)
  have hown : s.vm.findClass RX12 = some m.cls := hown
  have hl : lv_has ls 7 [(0, .ref o), (1, .int lv)] := hl
  obtain ⟨c22, ec22⟩ : ∃ z : Int32, z = f 22 := ⟨_, rfl⟩
  have hg0 : c22.toInt = 400 * (t : Int) + (i : Int) := by rw [ec22]; exact hp1
  obtain ⟨cb, ecb⟩ : ∃ z : Int32, z = f 24 := ⟨_, rfl⟩
  have b1 : kb 0 cb 1 := kb_eq ecb (fI_at hI.1 24 (by decide) (by decide))
  obtain ⟨m0, w0, hm1, n0, hn0⟩ := eG_out hp4
  refine lv_aload_n hx hb dX12_termOf_0 rfl (lv_at hl 0 rfl) ?_
  refine lv_iload_n hx hb dX12_termOf_1 rfl (lv_at hl 1 rfl) ?_
  refine kL.callV (As := [.int lv]) (rest := []) ⟨hx, hb, hml, hown, hg⟩ (hpart l o r f a g hI lv blv t (i) (m0) ob T Ws w0 (eS_fE hE hp0 (by decide) (by decide)) (by rw [ec22.symm]; exact hg0) hp2 (wQ_fE hE hp3 (by decide) (by decide)) hm1) (cwV 1 hg (kgV wt7_59 wt7_61 wp5_11 wt1_14 wt7_62) rfl rfl rfl (by decide +kernel) ⟨by dsimp only [rmD]; omega, by dsimp only [rmD]; omega⟩) hK hP hD hS hA mIs [] rfl (wr := []) rfl rfl rfl (fun i h => by cases h) 0 12 rfl rfl rfl hl.1 rfl (Nat.le_of_ble_eq_true rfl) dX12_termOf_2 ⟨Nat.le_refl _, Nat.le_refl _⟩ (fun v3 u4 H locs hw2 hP hD hS => ?_)
  have hP : va_P D vwCl (mW K o r u4 a g) H := hP
  have hD : va_D A (mW K o r u4 a g) := hD
  have hI : mI u4 a := hw2.2.1
  have eE5 : fE [22, 24] f u4 := hw2.2.2.1
  have hE : fE [22, 24] f u4 := fE_tr hE eE5
  obtain ⟨gv6, egv6⟩ : ∃ z : Int32, z = u4 22 := ⟨_, rfl⟩
  have hg7 : gv6.toInt = 400 * (t : Int) + ((m0 : Nat) : Int) := by rw [egv6]; exact hw2.2.2.2.1
  obtain ⟨bq8, ebq8⟩ : ∃ z : Int32, z = u4 24 := ⟨_, rfl⟩
  have b9 : kb 0 bq8 1 := kb_eq ebq8 (fI_at hI.1 24 (by decide) (by decide))
  have hr10 : mRs lv cb (w0 Ws) bq8 v3.toInt := by have w1 := hw2.2.2.2.2; rw [ecb.symm, ← ebq8] at w1; exact w1
  refine lv_lstore_n (lv' := [(2, .long v3), (0, .ref o), (1, .int lv)]) hx hb dX12_termOf_5 rfl hl (by decide) rfl (fun ls hl => ?_)
  have lp13 : ∀ (n14 : Nat) (i7 : Nat) (xv : eV) (F12 : Nat → Int32) (H : Heap) (locs : List Loc) (ls : Array Slot) (y11 : Int64), (ee ob T n14 d 7 i7 xv j v_) → (mI F12 a) → (fE [22, 24] f F12) → ((F12 22).toInt = 400 * (t : Int) + (i7 : Int)) → (mRs lv cb (xv Ws) (F12 24) y11.toInt) → va_P D vwCl (mW K o r F12 a g) H → va_D A (mW K o r F12 a g) → va_S A s.heap H locs → lv_has ls 7 [(2, .long y11), (0, .ref o), (1, .int lv)] → W p l e (rmD (3 * d + 7) 0 0) s m ([.ref o, .int lv] : List Value).toArray below meth c H locs 0 0 (kQl D (tysK K) (fun v (u : Nat → Int32) => kbl (-9223372036854775808) v 9223372036854775807 ∧ mI u a ∧ fE [22, 24] f u ∧ (u 22).toInt = 400 * (t : Int) + (j : Int) ∧ mRs lv (f 24) (v_ Ws) (u 24) v.toInt) (fun u => mW K o r u a g) A below ([.ref o, .int lv] : List Value).toArray s 0 0) (F0 m 6 ls []) := by
    intro n14
    induction n14 with
    | zero =>
      intro i7 xv F12  H locs ls y11 hmlp13 hI hE hvlp13_0 hvlp13_1 hP hD hS hl
      exact (hmlp13 : False).elim
    | succ n14 ihlp13 =>
      intro i7 xv F12  H locs ls y11 hmlp13 hI hE hvlp13_0 hvlp13_1 hP hD hS hl
      obtain ⟨gv15, egv15⟩ : ∃ z : Int32, z = F12 22 := ⟨_, rfl⟩
      have hg16 : gv15.toInt = 400 * (t : Int) + ((i7 : Nat) : Int) := by rw [egv15]; exact hvlp13_0
      obtain ⟨bq17, ebq17⟩ : ∃ z : Int32, z = F12 24 := ⟨_, rfl⟩
      have b18 : kb 0 bq17 1 := kb_eq ebq17 (fI_at hI.1 24 (by decide) (by decide))
      have hacc : mRs lv cb (xv Ws) bq17 y11.toInt := by rw [ebq17]; exact hvlp13_1
      rcases ee_out hmlp13 with ⟨h1, hj, hvx⟩ | ⟨h1 | h1 | h1, mm, ww, ht, h6⟩
      · refine lv_aload_n hx hb dX12_termOf_6 rfl (lv_at hl 1 rfl) ?_
        refine lv_aload_n hx hb dX12_termOf_7 rfl (lv_at hl 1 rfl) ?_
        refine va_get (D := D) (ci := 12) (v := .int (F12 22)) (C := RX12) (T := TX12) (N := 48) hx hb hg inC12 hown hK hP 0 rfl rfl 22 (by decide) (hg _ wt5_182) (fun _ h9 => h9) rfl dX12_termOf_8 ?_
        refine k_top (z := gv15) egv15.symm ?_
        refine kI.callV (As := [.int gv15]) (rest := []) ⟨hx, hb, hml, hown, hg⟩ (m_codeAt l o r F12 a g hI gv15  t (i7) ob (eS_fE hE hp0 (by decide) (by decide)) hg16) (cwV 1 hg (kgV wt7_47 wt7_49 wp5_8 wt1_14 wt7_50) rfl rfl rfl (by decide +kernel) ⟨by dsimp only [rmD]; omega, by dsimp only [rmD]; omega⟩) hK hP hD hS hA mIs [] rfl (wr := []) rfl rfl rfl (fun i h => by cases h) 0 12 rfl rfl rfl hl.1 rfl (Nat.le_of_ble_eq_true rfl) dX12_termOf_11 ⟨Nat.le_refl _, Nat.le_refl _⟩ (fun v20 u21 H locs hw19 hP hD hS => ?_)
        have hP : va_P D vwCl (mW K o r F12 a g) H := hP
        have hD : va_D A (mW K o r F12 a g) := hD
        refine lv_bipush (v := 42) hx hb dX12_termOf_14 (by decide) ?_
        refine kN.callS (As := [.int 42]) (rest := [.int v20]) ⟨hx, hb, hml, hown, hg⟩ (m_sign l 42 (kb_w kc_42 (by decide) (by decide))) (va_cwS 1 hg (kgS wt6_220 wt6_221 wt1_14 wt6_222) rfl rfl rfl (by decide +kernel) ⟨by dsimp only [rmD]; omega, by dsimp only [rmD]; omega⟩) hP hS rfl hl.1 rfl (Nat.le_of_ble_eq_true rfl) dX12_termOf_16 ⟨Nat.le_refl _, Nat.le_refl _⟩ (fun v23 H locs hw22 hP hS => ?_)
        refine k_top (z := 142) (Int32.toInt_inj.mp (hw22.2.trans (by decide +kernel))) ?_
        refine lv_icmp_eq (tgt := 54) hx hb dX12_termOf_19 (by decide) (fun c25 => ?_) (fun c25 => ?_)
        · exact absurd c25 (fun q => (tq_n hp2 (x := 142) (y := 3042) (by decide +kernel) (by decide +kernel) (fun q => h1 (Or.inl q))) (hw19.2.symm.trans q))
        · refine lv_aload_n hx hb dX12_termOf_22 rfl (lv_at hl 1 rfl) ?_
          refine lv_aload_n hx hb dX12_termOf_23 rfl (lv_at hl 1 rfl) ?_
          refine va_get (D := D) (ci := 12) (v := .int (F12 22)) (C := RX12) (T := TX12) (N := 48) hx hb hg inC12 hown hK hP 0 rfl rfl 22 (by decide) (hg _ wt5_182) (fun _ h9 => h9) rfl dX12_termOf_24 ?_
          refine k_top (z := gv15) egv15.symm ?_
          refine kI.callV (As := [.int gv15]) (rest := []) ⟨hx, hb, hml, hown, hg⟩ (m_codeAt l o r F12 a g hI gv15  t (i7) ob (eS_fE hE hp0 (by decide) (by decide)) hg16) (cwV 1 hg (kgV wt7_47 wt7_49 wp5_8 wt1_14 wt7_50) rfl rfl rfl (by decide +kernel) ⟨by dsimp only [rmD]; omega, by dsimp only [rmD]; omega⟩) hK hP hD hS hA mIs [] rfl (wr := []) rfl rfl rfl (fun i h => by cases h) 0 12 rfl rfl rfl hl.1 rfl (Nat.le_of_ble_eq_true rfl) dX12_termOf_27 ⟨Nat.le_refl _, Nat.le_refl _⟩ (fun v27 u28 H locs hw26 hP hD hS => ?_)
          have hP : va_P D vwCl (mW K o r F12 a g) H := hP
          have hD : va_D A (mW K o r F12 a g) := hD
          refine lv_bipush (v := 47) hx hb dX12_termOf_30 (by decide) ?_
          refine kN.callS (As := [.int 47]) (rest := [.int v27]) ⟨hx, hb, hml, hown, hg⟩ (m_sign l 47 (kb_w kc_47 (by decide) (by decide))) (va_cwS 1 hg (kgS wt6_220 wt6_221 wt1_14 wt6_222) rfl rfl rfl (by decide +kernel) ⟨by dsimp only [rmD]; omega, by dsimp only [rmD]; omega⟩) hP hS rfl hl.1 rfl (Nat.le_of_ble_eq_true rfl) dX12_termOf_32 ⟨Nat.le_refl _, Nat.le_refl _⟩ (fun v30 H locs hw29 hP hS => ?_)
          refine k_top (z := 147) (Int32.toInt_inj.mp (hw29.2.trans (by decide +kernel))) ?_
          refine lv_icmp_eq (tgt := 54) hx hb dX12_termOf_35 (by decide) (fun c32 => ?_) (fun c32 => ?_)
          · exact absurd c32 (fun q => (tq_n hp2 (x := 147) (y := 3047) (by decide +kernel) (by decide +kernel) (fun q => h1 (Or.inr (Or.inl q)))) (hw26.2.symm.trans q))
          · refine lv_aload_n hx hb dX12_termOf_38 rfl (lv_at hl 1 rfl) ?_
            refine lv_aload_n hx hb dX12_termOf_39 rfl (lv_at hl 1 rfl) ?_
            refine va_get (D := D) (ci := 12) (v := .int (F12 22)) (C := RX12) (T := TX12) (N := 48) hx hb hg inC12 hown hK hP 0 rfl rfl 22 (by decide) (hg _ wt5_182) (fun _ h9 => h9) rfl dX12_termOf_40 ?_
            refine k_top (z := gv15) egv15.symm ?_
            refine kI.callV (As := [.int gv15]) (rest := []) ⟨hx, hb, hml, hown, hg⟩ (m_codeAt l o r F12 a g hI gv15  t (i7) ob (eS_fE hE hp0 (by decide) (by decide)) hg16) (cwV 1 hg (kgV wt7_47 wt7_49 wp5_8 wt1_14 wt7_50) rfl rfl rfl (by decide +kernel) ⟨by dsimp only [rmD]; omega, by dsimp only [rmD]; omega⟩) hK hP hD hS hA mIs [] rfl (wr := []) rfl rfl rfl (fun i h => by cases h) 0 12 rfl rfl rfl hl.1 rfl (Nat.le_of_ble_eq_true rfl) dX12_termOf_43 ⟨Nat.le_refl _, Nat.le_refl _⟩ (fun v34 u35 H locs hw33 hP hD hS => ?_)
            have hP : va_P D vwCl (mW K o r F12 a g) H := hP
            have hD : va_D A (mW K o r F12 a g) := hD
            refine lv_bipush (v := 37) hx hb dX12_termOf_46 (by decide) ?_
            refine kN.callS (As := [.int 37]) (rest := [.int v34]) ⟨hx, hb, hml, hown, hg⟩ (m_sign l 37 (kb_w kc_37 (by decide) (by decide))) (va_cwS 1 hg (kgS wt6_220 wt6_221 wt1_14 wt6_222) rfl rfl rfl (by decide +kernel) ⟨by dsimp only [rmD]; omega, by dsimp only [rmD]; omega⟩) hP hS rfl hl.1 rfl (Nat.le_of_ble_eq_true rfl) dX12_termOf_48 ⟨Nat.le_refl _, Nat.le_refl _⟩ (fun v37 H locs hw36 hP hS => ?_)
            refine k_top (z := 137) (Int32.toInt_inj.mp (hw36.2.trans (by decide +kernel))) ?_
            refine lv_icmp_ne (tgt := 168) hx hb dX12_termOf_51 (by decide) (fun c39 => ?_) (fun c39 => ?_)
            · refine lv_lload_n hx hb dX12_termOf_168 rfl (lv_at hl 0 rfl) ?_
              exact kL_ret (v := y11) hx hb hr hlocks hK hS dX12_termOf_169 F12 hP hD ⟨(kbl_any y11), hI, hE, (by rw [egv15.symm, hg16]; omega), (by show mRs lv (f 24) (v_ Ws) (F12 24) (y11 : Int64).toInt; rw [ebq17.symm, ← ecb]; exact (by rw [hvx]; exact hacc))⟩
            · exact absurd c39 (fun q => (tq_n hp2 (x := 137) (y := 3037) (by decide +kernel) (by decide +kernel) (fun q => h1 (Or.inr (Or.inr q)))) (hw33.2.symm.trans q))
      · have b40 : kb 0 gv15 2799 := kb_go (eS_fE hE hp0 (by decide) (by decide)) (mC_lt (eS_fE hE hp0 (by decide) (by decide)) (ne_0 (tq_y hp2 (x := 142) (y := 3042) (by decide +kernel) (by decide +kernel) h1) (by decide +kernel))) hg16
        refine lv_aload_n hx hb dX12_termOf_6 rfl (lv_at hl 1 rfl) ?_
        refine lv_aload_n hx hb dX12_termOf_7 rfl (lv_at hl 1 rfl) ?_
        refine va_get (D := D) (ci := 12) (v := .int (F12 22)) (C := RX12) (T := TX12) (N := 48) hx hb hg inC12 hown hK hP 0 rfl rfl 22 (by decide) (hg _ wt5_182) (fun _ h9 => h9) rfl dX12_termOf_8 ?_
        refine k_top (z := gv15) egv15.symm ?_
        refine kI.callV (As := [.int gv15]) (rest := []) ⟨hx, hb, hml, hown, hg⟩ (m_codeAt l o r F12 a g hI gv15  t (i7) ob (eS_fE hE hp0 (by decide) (by decide)) hg16) (cwV 1 hg (kgV wt7_47 wt7_49 wp5_8 wt1_14 wt7_50) rfl rfl rfl (by decide +kernel) ⟨by dsimp only [rmD]; omega, by dsimp only [rmD]; omega⟩) hK hP hD hS hA mIs [] rfl (wr := []) rfl rfl rfl (fun i h => by cases h) 0 12 rfl rfl rfl hl.1 rfl (Nat.le_of_ble_eq_true rfl) dX12_termOf_11 ⟨Nat.le_refl _, Nat.le_refl _⟩ (fun v42 u43 H locs hw41 hP hD hS => ?_)
        have hP : va_P D vwCl (mW K o r F12 a g) H := hP
        have hD : va_D A (mW K o r F12 a g) := hD
        refine k_top (z := 142) (hw41.2.trans (tq_y hp2 (x := 142) (y := 3042) (by decide +kernel) (by decide +kernel) h1)) ?_
        refine lv_bipush (v := 42) hx hb dX12_termOf_14 (by decide) ?_
        refine kN.callS (As := [.int 42]) (rest := [.int 142]) ⟨hx, hb, hml, hown, hg⟩ (m_sign l 42 (kb_w kc_42 (by decide) (by decide))) (va_cwS 1 hg (kgS wt6_220 wt6_221 wt1_14 wt6_222) rfl rfl rfl (by decide +kernel) ⟨by dsimp only [rmD]; omega, by dsimp only [rmD]; omega⟩) hP hS rfl hl.1 rfl (Nat.le_of_ble_eq_true rfl) dX12_termOf_16 ⟨Nat.le_refl _, Nat.le_refl _⟩ (fun v45 H locs hw44 hP hS => ?_)
        refine k_top (z := 142) (Int32.toInt_inj.mp (hw44.2.trans (by decide +kernel))) ?_
        refine lv_icmp_eq (tgt := 54) hx hb dX12_termOf_19 (by decide) (fun c47 => ?_) (fun c47 => ?_)
        · refine lv_aload_n hx hb dX12_termOf_54 rfl (lv_at hl 1 rfl) ?_
          refine lv_aload_n hx hb dX12_termOf_55 rfl (lv_at hl 1 rfl) ?_
          refine va_get (D := D) (ci := 12) (v := .int (F12 22)) (C := RX12) (T := TX12) (N := 48) hx hb hg inC12 hown hK hP 0 rfl rfl 22 (by decide) (hg _ wt5_182) (fun _ h9 => h9) rfl dX12_termOf_56 ?_
          refine k_top (z := gv15) egv15.symm ?_
          refine kI.callV (As := [.int gv15]) (rest := []) ⟨hx, hb, hml, hown, hg⟩ (m_codeAt l o r F12 a g hI gv15  t (i7) ob (eS_fE hE hp0 (by decide) (by decide)) hg16) (cwV 1 hg (kgV wt7_47 wt7_49 wp5_8 wt1_14 wt7_50) rfl rfl rfl (by decide +kernel) ⟨by dsimp only [rmD]; omega, by dsimp only [rmD]; omega⟩) hK hP hD hS hA mIs [] rfl (wr := []) rfl rfl rfl (fun i h => by cases h) 0 12 rfl rfl rfl hl.1 rfl (Nat.le_of_ble_eq_true rfl) dX12_termOf_59 ⟨Nat.le_refl _, Nat.le_refl _⟩ (fun v49 u50 H locs hw48 hP hD hS => ?_)
          have hP : va_P D vwCl (mW K o r F12 a g) H := hP
          have hD : va_D A (mW K o r F12 a g) := hD
          refine k_top (z := 142) (hw48.2.trans (tq_y hp2 (x := 142) (y := 3042) (by decide +kernel) (by decide +kernel) h1)) ?_
          refine lv_istore (lv' := [(4, .int 142), (2, .long y11), (0, .ref o), (1, .int lv)]) hx hb dX12_termOf_62 hl (by decide) rfl (fun ls hl => ?_)
          refine lv_aload_n hx hb dX12_termOf_64 rfl (lv_at hl 2 rfl) ?_
          refine lv_dup hx hb dX12_termOf_65 rfl ?_
          refine va_get (D := D) (ci := 12) (v := .int (F12 22)) (C := RX12) (T := TX12) (N := 48) hx hb hg inC12 hown hK hP 0 rfl rfl 22 (by decide) (hg _ wt5_182) (fun _ h9 => h9) rfl dX12_termOf_66 ?_
          refine k_top (z := gv15) egv15.symm ?_
          refine lv_iconst (v := 1) hx hb dX12_termOf_69 (by decide) ?_
          refine lv_iadd hx hb dX12_termOf_70 ?_
          refine lv_topi (fun t51 et51 => ?_)
          have b52 : kb 1 t51 2800 := kb_eq et51 (kb_add b40 kc_1 (by decide) (by decide))
          have qt51 : t51.toInt = gv15.toInt + 1 := by rw [et51]; exact kt_addc b40 kc_1 (by decide) (by decide)
          have hg53 : t51.toInt = 400 * (t : Int) + ((i7 + 1 : Nat) : Int) := by rw [qt51, hg16]; omega
          refine va_put (D := D) (ci := 12) (v := .int t51) (ty := .int) (C := RX12) (T := TX12) (N := 48) hx hb hg inC12 tyX12 tyX12_ok nmX12 hown hK hP hD hS 0 rfl rfl 22 (by decide) (hg _ wt5_182) (fun _ h9 => h9) rfl (by decide +kernel) rfl rfl (Nat.le_of_ble_eq_true rfl) dX12_termOf_71 (fun H locs hP hD hS => ?_)
          have hP : va_P D vwCl (mW K o r (upd F12 22 t51) a g) H := hP
          have hD : va_D A (mW K o r (upd F12 22 t51) a g) := hD
          refine k_gen (P := fun z => va_P D vwCl (mW K o r z a g) H ∧ va_D A (mW K o r z a g) ∧ (mI z a) ∧ (fE [22, 24] f z)) (upd F12 22 t51) ⟨hP, hD, (mI_f hI (fI_st hI.1 22 (kb_any _) (by decide) (by decide))), (fE_f hE (by decide))⟩ (fun f_54 ef_54 hq => ?_)
          obtain ⟨hP, hD, hI, hE⟩ := hq
          refine lv_aload_n hx hb dX12_termOf_74 rfl (lv_at hl 2 rfl) ?_
          refine lv_iload_n hx hb dX12_termOf_75 rfl (lv_at hl 3 rfl) ?_
          refine kL.callV (As := [.int lv]) (rest := []) ⟨hx, hb, hml, hown, hg⟩ (hpart l o r f_54 a g hI lv blv t (i7 + 1) (mm) ob T Ws ww (eS_fE hE hp0 (by decide) (by decide)) (by rw [(show f_54 22 = t51 from by rw [← ef_54]; rfl)]; exact hg53) hp2 (wQ_fE hE hp3 (by decide) (by decide)) (eG_of ht)) (cwV 1 hg (kgV wt7_59 wt7_61 wp5_11 wt1_14 wt7_62) rfl rfl rfl (by decide +kernel) ⟨by dsimp only [rmD]; omega, by dsimp only [rmD]; omega⟩) hK hP hD hS hA mIs [] rfl (wr := []) rfl rfl rfl (fun i h => by cases h) 0 12 rfl rfl rfl hl.1 rfl (Nat.le_of_ble_eq_true rfl) dX12_termOf_76 ⟨Nat.le_refl _, Nat.le_refl _⟩ (fun v56 u57 H locs hw55 hP hD hS => ?_)
          have hP : va_P D vwCl (mW K o r u57 a g) H := hP
          have hD : va_D A (mW K o r u57 a g) := hD
          have hI : mI u57 a := hw55.2.1
          have eE58 : fE [22, 24] f_54 u57 := hw55.2.2.1
          have hE : fE [22, 24] f u57 := fE_tr hE eE58
          obtain ⟨gv59, egv59⟩ : ∃ z : Int32, z = u57 22 := ⟨_, rfl⟩
          have hg60 : gv59.toInt = 400 * (t : Int) + ((mm : Nat) : Int) := by rw [egv59]; exact hw55.2.2.2.1
          obtain ⟨bq61, ebq61⟩ : ∃ z : Int32, z = u57 24 := ⟨_, rfl⟩
          have b62 : kb 0 bq61 1 := kb_eq ebq61 (fI_at hI.1 24 (by decide) (by decide))
          have hr63 : mRs lv bq17 (ww Ws) bq61 v56.toInt := by have w1 := hw55.2.2.2.2; rw [((show f_54 24 = F12 24 from by rw [← ef_54]; rfl).trans ebq17.symm), ← ebq61] at w1; exact w1
          refine lv_lstore (lv' := [(5, .long v56), (4, .int 142), (2, .long y11), (0, .ref o), (1, .int lv)]) hx hb dX12_termOf_79 hl (by decide) rfl (fun ls hl => ?_)
          refine lv_iload hx hb dX12_termOf_81 (lv_at hl 1 rfl) ?_
          refine lv_bipush (v := 42) hx hb dX12_termOf_83 (by decide) ?_
          refine kN.callS (As := [.int 42]) (rest := [.int 142]) ⟨hx, hb, hml, hown, hg⟩ (m_sign l 42 (kb_w kc_42 (by decide) (by decide))) (va_cwS 1 hg (kgS wt6_220 wt6_221 wt1_14 wt6_222) rfl rfl rfl (by decide +kernel) ⟨by dsimp only [rmD]; omega, by dsimp only [rmD]; omega⟩) hP hS rfl hl.1 rfl (Nat.le_of_ble_eq_true rfl) dX12_termOf_85 ⟨Nat.le_refl _, Nat.le_refl _⟩ (fun v65 H locs hw64 hP hS => ?_)
          refine k_top (z := 142) (Int32.toInt_inj.mp (hw64.2.trans (by decide +kernel))) ?_
          refine lv_icmp_eq (tgt := 121) hx hb dX12_termOf_88 (by decide) (fun c67 => ?_) (fun c67 => ?_)
          · refine lv_aload_n hx hb dX12_termOf_121 rfl (lv_at hl 3 rfl) ?_
            refine lv_iload hx hb dX12_termOf_122 (lv_at hl 1 rfl) ?_
            refine lv_bipush (v := 42) hx hb dX12_termOf_124 (by decide) ?_
            refine kN.callS (As := [.int 42]) (rest := [.int 142, .ref o]) ⟨hx, hb, hml, hown, hg⟩ (m_sign l 42 (kb_w kc_42 (by decide) (by decide))) (va_cwS 1 hg (kgS wt6_220 wt6_221 wt1_14 wt6_222) rfl rfl rfl (by decide +kernel) ⟨by dsimp only [rmD]; omega, by dsimp only [rmD]; omega⟩) hP hS rfl hl.1 rfl (Nat.le_of_ble_eq_true rfl) dX12_termOf_126 ⟨Nat.le_refl _, Nat.le_refl _⟩ (fun v69 H locs hw68 hP hS => ?_)
            refine k_top (z := 142) (Int32.toInt_inj.mp (hw68.2.trans (by decide +kernel))) ?_
            refine lv_icmp_ne (tgt := 139) hx hb dX12_termOf_129 (by decide) (fun c71 => ?_) (fun c71 => ?_)
            · exact kb_nsame c71 kc_142 kc_142
            · refine lv_lload_n hx hb dX12_termOf_132 rfl (lv_at hl 2 rfl) ?_
              refine lv_lload hx hb dX12_termOf_133 (lv_at hl 0 rfl) ?_
              refine lv_lmul hx hb dX12_termOf_135 ?_
              refine lv_topl (fun t72 et72 => ?_)
              refine lv_goto (tgt := 160) hx hb dX12_termOf_136 (by decide) ?_
              refine lv_iload_n hx hb dX12_termOf_160 rfl (lv_at hl 4 rfl) ?_
              refine kL.callV (As := [.long t72, .int lv]) (rest := []) ⟨hx, hb, hml, hown, hg⟩ (n_bounded l o r u57 a g hI t72 lv blv ) (cwV 2 hg (kgV wt7_74 wt7_76 wp5_14 wt1_14 wt7_77) rfl rfl rfl (by decide +kernel) ⟨by dsimp only [rmD]; omega, by dsimp only [rmD]; omega⟩) hK hP hD hS hA mIs [] rfl (wr := []) rfl rfl rfl (fun i h => by cases h) 0 12 rfl rfl rfl hl.1 rfl (Nat.le_of_ble_eq_true rfl) dX12_termOf_161 ⟨Nat.le_refl _, Nat.le_refl _⟩ (fun v74 u75 H locs hw73 hP hD hS => ?_)
              have hP : va_P D vwCl (mW K o r u75 a g) H := hP
              have hD : va_D A (mW K o r u75 a g) := hD
              have hI : mI u75 a := hw73.2.1
              have eE76 : fE [24] u57 u75 := hw73.2.2.1
              have hE : fE [22, 24] f u75 := fE_tr hE (fE_w (by decide) eE76)
              obtain ⟨bq77, ebq77⟩ : ∃ z : Int32, z = u75 24 := ⟨_, rfl⟩
              have b78 : kb 0 bq77 1 := kb_eq ebq77 (fI_at hI.1 24 (by decide) (by decide))
              have hbd : bdR lv bq61 t72.toInt bq77 v74.toInt := by have w1 := hw73.2.2.2; rw [ebq61.symm, ← ebq77] at w1; exact w1
              refine lv_lstore_n (lv' := [(2, .long v74), (5, .long v56), (4, .int 142), (0, .ref o), (1, .int lv)]) hx hb dX12_termOf_164 rfl hl (by decide) rfl (fun ls hl => ?_)
              refine lv_goto (tgt := 6) hx hb dX12_termOf_165 (by decide) ?_
              exact ihlp13 (mm) (jnO (opC (T i7)) xv ww) u75 _ _ _ v74 (h6) hI hE (by rw [((eE76 22 (by decide)).trans egv59.symm)]; exact hg60) (by show mRs lv cb (jnO (opC (T i7)) xv ww Ws) (u75 24) v74.toInt; rw [ebq77.symm, show opC (T i7) = 7 from (by rw [h1]; decide +kernel)]; exact (m_jn (op := 7) hacc hr63 (fun _ _ => by rw [(show t72.toInt = y11.toInt * v56.toInt from by rw [et72]; exact l_mul (mRs_o hacc) (mRs_o hr63))]; rfl) (fun p q => by rw [(show t72.toInt = y11.toInt * v56.toInt from by rw [et72]; exact l_mul (mRs_o hacc) (mRs_o hr63)), p, q]; rfl) hbd)) hP hD hS (lv_sub hl [0, 3, 4] rfl)
          · exact kb_nsame c67 kc_142 kc_142
        · exact kb_nsame c47 kc_142 kc_142
      · have b79 : kb 0 gv15 2799 := kb_go (eS_fE hE hp0 (by decide) (by decide)) (mC_lt (eS_fE hE hp0 (by decide) (by decide)) (ne_0 (tq_y hp2 (x := 147) (y := 3047) (by decide +kernel) (by decide +kernel) h1) (by decide +kernel))) hg16
        refine lv_aload_n hx hb dX12_termOf_6 rfl (lv_at hl 1 rfl) ?_
        refine lv_aload_n hx hb dX12_termOf_7 rfl (lv_at hl 1 rfl) ?_
        refine va_get (D := D) (ci := 12) (v := .int (F12 22)) (C := RX12) (T := TX12) (N := 48) hx hb hg inC12 hown hK hP 0 rfl rfl 22 (by decide) (hg _ wt5_182) (fun _ h9 => h9) rfl dX12_termOf_8 ?_
        refine k_top (z := gv15) egv15.symm ?_
        refine kI.callV (As := [.int gv15]) (rest := []) ⟨hx, hb, hml, hown, hg⟩ (m_codeAt l o r F12 a g hI gv15  t (i7) ob (eS_fE hE hp0 (by decide) (by decide)) hg16) (cwV 1 hg (kgV wt7_47 wt7_49 wp5_8 wt1_14 wt7_50) rfl rfl rfl (by decide +kernel) ⟨by dsimp only [rmD]; omega, by dsimp only [rmD]; omega⟩) hK hP hD hS hA mIs [] rfl (wr := []) rfl rfl rfl (fun i h => by cases h) 0 12 rfl rfl rfl hl.1 rfl (Nat.le_of_ble_eq_true rfl) dX12_termOf_11 ⟨Nat.le_refl _, Nat.le_refl _⟩ (fun v81 u82 H locs hw80 hP hD hS => ?_)
        have hP : va_P D vwCl (mW K o r F12 a g) H := hP
        have hD : va_D A (mW K o r F12 a g) := hD
        refine k_top (z := 147) (hw80.2.trans (tq_y hp2 (x := 147) (y := 3047) (by decide +kernel) (by decide +kernel) h1)) ?_
        refine lv_bipush (v := 42) hx hb dX12_termOf_14 (by decide) ?_
        refine kN.callS (As := [.int 42]) (rest := [.int 147]) ⟨hx, hb, hml, hown, hg⟩ (m_sign l 42 (kb_w kc_42 (by decide) (by decide))) (va_cwS 1 hg (kgS wt6_220 wt6_221 wt1_14 wt6_222) rfl rfl rfl (by decide +kernel) ⟨by dsimp only [rmD]; omega, by dsimp only [rmD]; omega⟩) hP hS rfl hl.1 rfl (Nat.le_of_ble_eq_true rfl) dX12_termOf_16 ⟨Nat.le_refl _, Nat.le_refl _⟩ (fun v84 H locs hw83 hP hS => ?_)
        refine k_top (z := 142) (Int32.toInt_inj.mp (hw83.2.trans (by decide +kernel))) ?_
        refine lv_icmp_eq (tgt := 54) hx hb dX12_termOf_19 (by decide) (fun c86 => ?_) (fun c86 => ?_)
        · exact kb_dj c86 kc_147 kc_142 (by decide)
        · refine lv_aload_n hx hb dX12_termOf_22 rfl (lv_at hl 1 rfl) ?_
          refine lv_aload_n hx hb dX12_termOf_23 rfl (lv_at hl 1 rfl) ?_
          refine va_get (D := D) (ci := 12) (v := .int (F12 22)) (C := RX12) (T := TX12) (N := 48) hx hb hg inC12 hown hK hP 0 rfl rfl 22 (by decide) (hg _ wt5_182) (fun _ h9 => h9) rfl dX12_termOf_24 ?_
          refine k_top (z := gv15) egv15.symm ?_
          refine kI.callV (As := [.int gv15]) (rest := []) ⟨hx, hb, hml, hown, hg⟩ (m_codeAt l o r F12 a g hI gv15  t (i7) ob (eS_fE hE hp0 (by decide) (by decide)) hg16) (cwV 1 hg (kgV wt7_47 wt7_49 wp5_8 wt1_14 wt7_50) rfl rfl rfl (by decide +kernel) ⟨by dsimp only [rmD]; omega, by dsimp only [rmD]; omega⟩) hK hP hD hS hA mIs [] rfl (wr := []) rfl rfl rfl (fun i h => by cases h) 0 12 rfl rfl rfl hl.1 rfl (Nat.le_of_ble_eq_true rfl) dX12_termOf_27 ⟨Nat.le_refl _, Nat.le_refl _⟩ (fun v88 u89 H locs hw87 hP hD hS => ?_)
          have hP : va_P D vwCl (mW K o r F12 a g) H := hP
          have hD : va_D A (mW K o r F12 a g) := hD
          refine k_top (z := 147) (hw87.2.trans (tq_y hp2 (x := 147) (y := 3047) (by decide +kernel) (by decide +kernel) h1)) ?_
          refine lv_bipush (v := 47) hx hb dX12_termOf_30 (by decide) ?_
          refine kN.callS (As := [.int 47]) (rest := [.int 147]) ⟨hx, hb, hml, hown, hg⟩ (m_sign l 47 (kb_w kc_47 (by decide) (by decide))) (va_cwS 1 hg (kgS wt6_220 wt6_221 wt1_14 wt6_222) rfl rfl rfl (by decide +kernel) ⟨by dsimp only [rmD]; omega, by dsimp only [rmD]; omega⟩) hP hS rfl hl.1 rfl (Nat.le_of_ble_eq_true rfl) dX12_termOf_32 ⟨Nat.le_refl _, Nat.le_refl _⟩ (fun v91 H locs hw90 hP hS => ?_)
          refine k_top (z := 147) (Int32.toInt_inj.mp (hw90.2.trans (by decide +kernel))) ?_
          refine lv_icmp_eq (tgt := 54) hx hb dX12_termOf_35 (by decide) (fun c93 => ?_) (fun c93 => ?_)
          · refine lv_aload_n hx hb dX12_termOf_54 rfl (lv_at hl 1 rfl) ?_
            refine lv_aload_n hx hb dX12_termOf_55 rfl (lv_at hl 1 rfl) ?_
            refine va_get (D := D) (ci := 12) (v := .int (F12 22)) (C := RX12) (T := TX12) (N := 48) hx hb hg inC12 hown hK hP 0 rfl rfl 22 (by decide) (hg _ wt5_182) (fun _ h9 => h9) rfl dX12_termOf_56 ?_
            refine k_top (z := gv15) egv15.symm ?_
            refine kI.callV (As := [.int gv15]) (rest := []) ⟨hx, hb, hml, hown, hg⟩ (m_codeAt l o r F12 a g hI gv15  t (i7) ob (eS_fE hE hp0 (by decide) (by decide)) hg16) (cwV 1 hg (kgV wt7_47 wt7_49 wp5_8 wt1_14 wt7_50) rfl rfl rfl (by decide +kernel) ⟨by dsimp only [rmD]; omega, by dsimp only [rmD]; omega⟩) hK hP hD hS hA mIs [] rfl (wr := []) rfl rfl rfl (fun i h => by cases h) 0 12 rfl rfl rfl hl.1 rfl (Nat.le_of_ble_eq_true rfl) dX12_termOf_59 ⟨Nat.le_refl _, Nat.le_refl _⟩ (fun v95 u96 H locs hw94 hP hD hS => ?_)
            have hP : va_P D vwCl (mW K o r F12 a g) H := hP
            have hD : va_D A (mW K o r F12 a g) := hD
            refine k_top (z := 147) (hw94.2.trans (tq_y hp2 (x := 147) (y := 3047) (by decide +kernel) (by decide +kernel) h1)) ?_
            refine lv_istore (lv' := [(4, .int 147), (2, .long y11), (0, .ref o), (1, .int lv)]) hx hb dX12_termOf_62 hl (by decide) rfl (fun ls hl => ?_)
            refine lv_aload_n hx hb dX12_termOf_64 rfl (lv_at hl 2 rfl) ?_
            refine lv_dup hx hb dX12_termOf_65 rfl ?_
            refine va_get (D := D) (ci := 12) (v := .int (F12 22)) (C := RX12) (T := TX12) (N := 48) hx hb hg inC12 hown hK hP 0 rfl rfl 22 (by decide) (hg _ wt5_182) (fun _ h9 => h9) rfl dX12_termOf_66 ?_
            refine k_top (z := gv15) egv15.symm ?_
            refine lv_iconst (v := 1) hx hb dX12_termOf_69 (by decide) ?_
            refine lv_iadd hx hb dX12_termOf_70 ?_
            refine lv_topi (fun t97 et97 => ?_)
            have b98 : kb 1 t97 2800 := kb_eq et97 (kb_add b79 kc_1 (by decide) (by decide))
            have qt97 : t97.toInt = gv15.toInt + 1 := by rw [et97]; exact kt_addc b79 kc_1 (by decide) (by decide)
            have hg99 : t97.toInt = 400 * (t : Int) + ((i7 + 1 : Nat) : Int) := by rw [qt97, hg16]; omega
            refine va_put (D := D) (ci := 12) (v := .int t97) (ty := .int) (C := RX12) (T := TX12) (N := 48) hx hb hg inC12 tyX12 tyX12_ok nmX12 hown hK hP hD hS 0 rfl rfl 22 (by decide) (hg _ wt5_182) (fun _ h9 => h9) rfl (by decide +kernel) rfl rfl (Nat.le_of_ble_eq_true rfl) dX12_termOf_71 (fun H locs hP hD hS => ?_)
            have hP : va_P D vwCl (mW K o r (upd F12 22 t97) a g) H := hP
            have hD : va_D A (mW K o r (upd F12 22 t97) a g) := hD
            refine k_gen (P := fun z => va_P D vwCl (mW K o r z a g) H ∧ va_D A (mW K o r z a g) ∧ (mI z a) ∧ (fE [22, 24] f z)) (upd F12 22 t97) ⟨hP, hD, (mI_f hI (fI_st hI.1 22 (kb_any _) (by decide) (by decide))), (fE_f hE (by decide))⟩ (fun f_100 ef_100 hq => ?_)
            obtain ⟨hP, hD, hI, hE⟩ := hq
            refine lv_aload_n hx hb dX12_termOf_74 rfl (lv_at hl 2 rfl) ?_
            refine lv_iload_n hx hb dX12_termOf_75 rfl (lv_at hl 3 rfl) ?_
            refine kL.callV (As := [.int lv]) (rest := []) ⟨hx, hb, hml, hown, hg⟩ (hpart l o r f_100 a g hI lv blv t (i7 + 1) (mm) ob T Ws ww (eS_fE hE hp0 (by decide) (by decide)) (by rw [(show f_100 22 = t97 from by rw [← ef_100]; rfl)]; exact hg99) hp2 (wQ_fE hE hp3 (by decide) (by decide)) (eG_of ht)) (cwV 1 hg (kgV wt7_59 wt7_61 wp5_11 wt1_14 wt7_62) rfl rfl rfl (by decide +kernel) ⟨by dsimp only [rmD]; omega, by dsimp only [rmD]; omega⟩) hK hP hD hS hA mIs [] rfl (wr := []) rfl rfl rfl (fun i h => by cases h) 0 12 rfl rfl rfl hl.1 rfl (Nat.le_of_ble_eq_true rfl) dX12_termOf_76 ⟨Nat.le_refl _, Nat.le_refl _⟩ (fun v102 u103 H locs hw101 hP hD hS => ?_)
            have hP : va_P D vwCl (mW K o r u103 a g) H := hP
            have hD : va_D A (mW K o r u103 a g) := hD
            have hI : mI u103 a := hw101.2.1
            have eE104 : fE [22, 24] f_100 u103 := hw101.2.2.1
            have hE : fE [22, 24] f u103 := fE_tr hE eE104
            obtain ⟨gv105, egv105⟩ : ∃ z : Int32, z = u103 22 := ⟨_, rfl⟩
            have hg106 : gv105.toInt = 400 * (t : Int) + ((mm : Nat) : Int) := by rw [egv105]; exact hw101.2.2.2.1
            obtain ⟨bq107, ebq107⟩ : ∃ z : Int32, z = u103 24 := ⟨_, rfl⟩
            have b108 : kb 0 bq107 1 := kb_eq ebq107 (fI_at hI.1 24 (by decide) (by decide))
            have hr109 : mRs lv bq17 (ww Ws) bq107 v102.toInt := by have w1 := hw101.2.2.2.2; rw [((show f_100 24 = F12 24 from by rw [← ef_100]; rfl).trans ebq17.symm), ← ebq107] at w1; exact w1
            refine lv_lstore (lv' := [(5, .long v102), (4, .int 147), (2, .long y11), (0, .ref o), (1, .int lv)]) hx hb dX12_termOf_79 hl (by decide) rfl (fun ls hl => ?_)
            refine lv_iload hx hb dX12_termOf_81 (lv_at hl 1 rfl) ?_
            refine lv_bipush (v := 42) hx hb dX12_termOf_83 (by decide) ?_
            refine kN.callS (As := [.int 42]) (rest := [.int 147]) ⟨hx, hb, hml, hown, hg⟩ (m_sign l 42 (kb_w kc_42 (by decide) (by decide))) (va_cwS 1 hg (kgS wt6_220 wt6_221 wt1_14 wt6_222) rfl rfl rfl (by decide +kernel) ⟨by dsimp only [rmD]; omega, by dsimp only [rmD]; omega⟩) hP hS rfl hl.1 rfl (Nat.le_of_ble_eq_true rfl) dX12_termOf_85 ⟨Nat.le_refl _, Nat.le_refl _⟩ (fun v111 H locs hw110 hP hS => ?_)
            refine k_top (z := 142) (Int32.toInt_inj.mp (hw110.2.trans (by decide +kernel))) ?_
            refine lv_icmp_eq (tgt := 121) hx hb dX12_termOf_88 (by decide) (fun c113 => ?_) (fun c113 => ?_)
            · exact kb_dj c113 kc_147 kc_142 (by decide)
            · refine lv_lload hx hb dX12_termOf_91 (lv_at hl 0 rfl) ?_
              refine lv_lconst (v := 0) hx hb dX12_termOf_93 (by decide) ?_
              refine W.lcmp hx hb dX12_termOf_94 ?_
              refine lv_topi (fun t114 et114 => ?_)
              refine lv_if_ne (tgt := 121) hx hb dX12_termOf_95 (by decide) (fun c115 => ?_) (fun c115 => ?_)
              · have h116 := klc_ne (et114 ▸ c115)
                refine lv_aload_n hx hb dX12_termOf_121 rfl (lv_at hl 3 rfl) ?_
                refine lv_iload hx hb dX12_termOf_122 (lv_at hl 1 rfl) ?_
                refine lv_bipush (v := 42) hx hb dX12_termOf_124 (by decide) ?_
                refine kN.callS (As := [.int 42]) (rest := [.int 147, .ref o]) ⟨hx, hb, hml, hown, hg⟩ (m_sign l 42 (kb_w kc_42 (by decide) (by decide))) (va_cwS 1 hg (kgS wt6_220 wt6_221 wt1_14 wt6_222) rfl rfl rfl (by decide +kernel) ⟨by dsimp only [rmD]; omega, by dsimp only [rmD]; omega⟩) hP hS rfl hl.1 rfl (Nat.le_of_ble_eq_true rfl) dX12_termOf_126 ⟨Nat.le_refl _, Nat.le_refl _⟩ (fun v118 H locs hw117 hP hS => ?_)
                refine k_top (z := 142) (Int32.toInt_inj.mp (hw117.2.trans (by decide +kernel))) ?_
                refine lv_icmp_ne (tgt := 139) hx hb dX12_termOf_129 (by decide) (fun c120 => ?_) (fun c120 => ?_)
                · refine lv_iload hx hb dX12_termOf_139 (lv_at hl 1 rfl) ?_
                  refine lv_bipush (v := 47) hx hb dX12_termOf_141 (by decide) ?_
                  refine kN.callS (As := [.int 47]) (rest := [.int 147, .ref o]) ⟨hx, hb, hml, hown, hg⟩ (m_sign l 47 (kb_w kc_47 (by decide) (by decide))) (va_cwS 1 hg (kgS wt6_220 wt6_221 wt1_14 wt6_222) rfl rfl rfl (by decide +kernel) ⟨by dsimp only [rmD]; omega, by dsimp only [rmD]; omega⟩) hP hS rfl hl.1 rfl (Nat.le_of_ble_eq_true rfl) dX12_termOf_143 ⟨Nat.le_refl _, Nat.le_refl _⟩ (fun v122 H locs hw121 hP hS => ?_)
                  refine k_top (z := 147) (Int32.toInt_inj.mp (hw121.2.trans (by decide +kernel))) ?_
                  refine lv_icmp_ne (tgt := 156) hx hb dX12_termOf_146 (by decide) (fun c124 => ?_) (fun c124 => ?_)
                  · exact kb_nsame c124 kc_147 kc_147
                  · refine lv_lload_n hx hb dX12_termOf_149 rfl (lv_at hl 2 rfl) ?_
                    refine lv_lload hx hb dX12_termOf_150 (lv_at hl 0 rfl) ?_
                    refine lv_ldiv hx hb dX12_termOf_152 h116 ?_
                    refine lv_topl (fun t125 et125 => ?_)
                    refine lv_goto (tgt := 160) hx hb dX12_termOf_153 (by decide) ?_
                    refine lv_iload_n hx hb dX12_termOf_160 rfl (lv_at hl 4 rfl) ?_
                    refine kL.callV (As := [.long t125, .int lv]) (rest := []) ⟨hx, hb, hml, hown, hg⟩ (n_bounded l o r u103 a g hI t125 lv blv ) (cwV 2 hg (kgV wt7_74 wt7_76 wp5_14 wt1_14 wt7_77) rfl rfl rfl (by decide +kernel) ⟨by dsimp only [rmD]; omega, by dsimp only [rmD]; omega⟩) hK hP hD hS hA mIs [] rfl (wr := []) rfl rfl rfl (fun i h => by cases h) 0 12 rfl rfl rfl hl.1 rfl (Nat.le_of_ble_eq_true rfl) dX12_termOf_161 ⟨Nat.le_refl _, Nat.le_refl _⟩ (fun v127 u128 H locs hw126 hP hD hS => ?_)
                    have hP : va_P D vwCl (mW K o r u128 a g) H := hP
                    have hD : va_D A (mW K o r u128 a g) := hD
                    have hI : mI u128 a := hw126.2.1
                    have eE129 : fE [24] u103 u128 := hw126.2.2.1
                    have hE : fE [22, 24] f u128 := fE_tr hE (fE_w (by decide) eE129)
                    obtain ⟨bq130, ebq130⟩ : ∃ z : Int32, z = u128 24 := ⟨_, rfl⟩
                    have b131 : kb 0 bq130 1 := kb_eq ebq130 (fI_at hI.1 24 (by decide) (by decide))
                    have hbd : bdR lv bq107 t125.toInt bq130 v127.toInt := by have w1 := hw126.2.2.2; rw [ebq107.symm, ← ebq130] at w1; exact w1
                    refine lv_lstore_n (lv' := [(2, .long v127), (5, .long v102), (4, .int 147), (0, .ref o), (1, .int lv)]) hx hb dX12_termOf_164 rfl hl (by decide) rfl (fun ls hl => ?_)
                    refine lv_goto (tgt := 6) hx hb dX12_termOf_165 (by decide) ?_
                    exact ihlp13 (mm) (jnO (opC (T i7)) xv ww) u128 _ _ _ v127 (h6) hI hE (by rw [((eE129 22 (by decide)).trans egv105.symm)]; exact hg106) (by show mRs lv cb (jnO (opC (T i7)) xv ww Ws) (u128 24) v127.toInt; rw [ebq130.symm, show opC (T i7) = 8 from (by rw [h1]; decide +kernel)]; exact (m_jd (op := 8) (z' := v102.toInt) hacc hr109 (Or.inr ⟨(fun e => h116 (Int64.toInt_inj.mp (e.trans (by decide +kernel)))), rfl, rfl⟩) (b01 blv) (b01 b108) (fun n => by show (if _ = 0 then none else bnd _) = _; rw [if_neg n, (show t125.toInt = y11.toInt.tdiv v102.toInt from by rw [et125]; exact l_div (mRs_o hacc))]) (fun e => absurd e (fun e => h116 (Int64.toInt_inj.mp (e.trans (by decide +kernel))))) (fun p => by rw [(show t125.toInt = y11.toInt.tdiv v102.toInt from by rw [et125]; exact l_div (mRs_o hacc)), p]; exact Int.zero_tdiv _) (fun p => by rw [(show t125.toInt = y11.toInt.tdiv v102.toInt from by rw [et125]; exact l_div (mRs_o hacc))]; exact l_divp p) hbd)) hP hD hS (lv_sub hl [0, 3, 4] rfl)
                · exact kb_dj c120 kc_147 kc_142 (by decide)
              · have h132 := klc_eq (et114 ▸ c115)
                refine lv_aload_n hx hb dX12_termOf_98 rfl (lv_at hl 3 rfl) ?_
                refine lv_aload_n hx hb dX12_termOf_99 rfl (lv_at hl 3 rfl) ?_
                refine va_get (D := D) (ci := 12) (v := .int (u103 24)) (C := RX12) (T := TX12) (N := 48) hx hb hg inC12 hown hK hP 0 rfl rfl 24 (by decide) (hg _ wt5_184) (fun _ h9 => h9) rfl dX12_termOf_100 ?_
                refine k_top (z := bq107) ebq107.symm ?_
                refine lv_if_ne (tgt := 110) hx hb dX12_termOf_103 (by decide) (fun c133 => ?_) (fun c133 => ?_)
                · have b134 : kb 1 bq107 1 := kr_nel c133 b108 kc_0 (by decide)
                  refine lv_iconst (v := 1) hx hb dX12_termOf_110 (by decide) ?_
                  refine lv_goto (tgt := 115) hx hb dX12_termOf_111 (by decide) ?_
                  refine va_put (D := D) (ci := 12) (v := .int 1) (ty := .boolean) (C := RX12) (T := TX12) (N := 48) hx hb hg inC12 tyX12 tyX12_ok nmX12 hown hK hP hD hS 0 rfl rfl 24 (by decide) (hg _ wt5_184) (fun _ h9 => h9) rfl (by decide +kernel) rfl rfl (Nat.le_of_ble_eq_true rfl) dX12_termOf_115 (fun H locs hP hD hS => ?_)
                  have hP : va_P D vwCl (mW K o r (upd u103 24 1) a g) H := hP
                  have hD : va_D A (mW K o r (upd u103 24 1) a g) := hD
                  refine k_gen (P := fun z => va_P D vwCl (mW K o r z a g) H ∧ va_D A (mW K o r z a g) ∧ (mI z a) ∧ (fE [22, 24] f z)) (upd u103 24 1) ⟨hP, hD, (mI_f hI (fI_st hI.1 24 kc_1 (by decide) (by decide))), (fE_f hE (by decide))⟩ (fun f_135 ef_135 hq => ?_)
                  obtain ⟨hP, hD, hI, hE⟩ := hq
                  refine lv_lconst (v := 1) hx hb dX12_termOf_118 (by decide) ?_
                  refine lv_lstore (lv' := [(5, .long 1), (4, .int 147), (2, .long y11), (0, .ref o), (1, .int lv)]) hx hb dX12_termOf_119 hl (by decide) rfl (fun ls hl => ?_)
                  refine lv_aload_n hx hb dX12_termOf_121 rfl (lv_at hl 3 rfl) ?_
                  refine lv_iload hx hb dX12_termOf_122 (lv_at hl 1 rfl) ?_
                  refine lv_bipush (v := 42) hx hb dX12_termOf_124 (by decide) ?_
                  refine kN.callS (As := [.int 42]) (rest := [.int 147, .ref o]) ⟨hx, hb, hml, hown, hg⟩ (m_sign l 42 (kb_w kc_42 (by decide) (by decide))) (va_cwS 1 hg (kgS wt6_220 wt6_221 wt1_14 wt6_222) rfl rfl rfl (by decide +kernel) ⟨by dsimp only [rmD]; omega, by dsimp only [rmD]; omega⟩) hP hS rfl hl.1 rfl (Nat.le_of_ble_eq_true rfl) dX12_termOf_126 ⟨Nat.le_refl _, Nat.le_refl _⟩ (fun v137 H locs hw136 hP hS => ?_)
                  refine k_top (z := 142) (Int32.toInt_inj.mp (hw136.2.trans (by decide +kernel))) ?_
                  refine lv_icmp_ne (tgt := 139) hx hb dX12_termOf_129 (by decide) (fun c139 => ?_) (fun c139 => ?_)
                  · refine lv_iload hx hb dX12_termOf_139 (lv_at hl 1 rfl) ?_
                    refine lv_bipush (v := 47) hx hb dX12_termOf_141 (by decide) ?_
                    refine kN.callS (As := [.int 47]) (rest := [.int 147, .ref o]) ⟨hx, hb, hml, hown, hg⟩ (m_sign l 47 (kb_w kc_47 (by decide) (by decide))) (va_cwS 1 hg (kgS wt6_220 wt6_221 wt1_14 wt6_222) rfl rfl rfl (by decide +kernel) ⟨by dsimp only [rmD]; omega, by dsimp only [rmD]; omega⟩) hP hS rfl hl.1 rfl (Nat.le_of_ble_eq_true rfl) dX12_termOf_143 ⟨Nat.le_refl _, Nat.le_refl _⟩ (fun v141 H locs hw140 hP hS => ?_)
                    refine k_top (z := 147) (Int32.toInt_inj.mp (hw140.2.trans (by decide +kernel))) ?_
                    refine lv_icmp_ne (tgt := 156) hx hb dX12_termOf_146 (by decide) (fun c143 => ?_) (fun c143 => ?_)
                    · exact kb_nsame c143 kc_147 kc_147
                    · refine lv_lload_n hx hb dX12_termOf_149 rfl (lv_at hl 2 rfl) ?_
                      refine lv_lload hx hb dX12_termOf_150 (lv_at hl 0 rfl) ?_
                      refine lv_ldiv hx hb dX12_termOf_152 (by decide +kernel) ?_
                      refine lv_topl (fun t144 et144 => ?_)
                      refine lv_goto (tgt := 160) hx hb dX12_termOf_153 (by decide) ?_
                      refine lv_iload_n hx hb dX12_termOf_160 rfl (lv_at hl 4 rfl) ?_
                      refine kL.callV (As := [.long t144, .int lv]) (rest := []) ⟨hx, hb, hml, hown, hg⟩ (n_bounded l o r f_135 a g hI t144 lv blv ) (cwV 2 hg (kgV wt7_74 wt7_76 wp5_14 wt1_14 wt7_77) rfl rfl rfl (by decide +kernel) ⟨by dsimp only [rmD]; omega, by dsimp only [rmD]; omega⟩) hK hP hD hS hA mIs [] rfl (wr := []) rfl rfl rfl (fun i h => by cases h) 0 12 rfl rfl rfl hl.1 rfl (Nat.le_of_ble_eq_true rfl) dX12_termOf_161 ⟨Nat.le_refl _, Nat.le_refl _⟩ (fun v146 u147 H locs hw145 hP hD hS => ?_)
                      have hP : va_P D vwCl (mW K o r u147 a g) H := hP
                      have hD : va_D A (mW K o r u147 a g) := hD
                      have hI : mI u147 a := hw145.2.1
                      have eE148 : fE [24] f_135 u147 := hw145.2.2.1
                      have hE : fE [22, 24] f u147 := fE_tr hE (fE_w (by decide) eE148)
                      obtain ⟨bq149, ebq149⟩ : ∃ z : Int32, z = u147 24 := ⟨_, rfl⟩
                      have b150 : kb 0 bq149 1 := kb_eq ebq149 (fI_at hI.1 24 (by decide) (by decide))
                      have hbd : bdR lv 1 t144.toInt bq149 v146.toInt := by have w1 := hw145.2.2.2; rw [(show f_135 24 = 1 from by rw [← ef_135]; rfl), ← ebq149] at w1; exact w1
                      refine lv_lstore_n (lv' := [(2, .long v146), (5, .long 1), (4, .int 147), (0, .ref o), (1, .int lv)]) hx hb dX12_termOf_164 rfl hl (by decide) rfl (fun ls hl => ?_)
                      refine lv_goto (tgt := 6) hx hb dX12_termOf_165 (by decide) ?_
                      exact ihlp13 (mm) (jnO (opC (T i7)) xv ww) u147 _ _ _ v146 (h6) hI hE (by rw [((eE148 22 (by decide)).trans ((show f_135 22 = u103 22 from by rw [← ef_135]; rfl).trans egv105.symm))]; exact hg106) (by show mRs lv cb (jnO (opC (T i7)) xv ww Ws) (u147 24) v146.toInt; rw [ebq149.symm, show opC (T i7) = 8 from (by rw [h1]; decide +kernel)]; exact (m_jd (op := 8) (z' := 1) hacc hr109 (Or.inl ⟨(show v102.toInt = 0 from by rw [h132]; decide +kernel), rfl, (by rw [if_neg (fun q => c133 q.1)])⟩) (b01 blv) (b01 (kb_w b134 (by decide) (by decide))) (fun n => absurd (show v102.toInt = 0 from by rw [h132]; decide +kernel) n) (fun e => by show (if _ = 0 then none else _) = none; rw [if_pos e]) (fun p => by rw [(show t144.toInt = y11.toInt.tdiv 1 from by rw [et144, l_div (mRs_o hacc), (by decide +kernel : (1 : Int64).toInt = 1)]), p]; exact Int.zero_tdiv _) (fun p => by rw [(show t144.toInt = y11.toInt.tdiv 1 from by rw [et144, l_div (mRs_o hacc), (by decide +kernel : (1 : Int64).toInt = 1)])]; exact l_divp p) hbd)) hP hD hS (lv_sub hl [0, 3, 4] rfl)
                  · exact kb_dj c139 kc_147 kc_142 (by decide)
                · have b151 : kb 0 bq107 0 := kb_eq c133 kc_0
                  refine lv_iload_n hx hb dX12_termOf_106 rfl (lv_at hl 4 rfl) ?_
                  refine lv_if_eq (tgt := 114) hx hb dX12_termOf_107 (by decide) (fun c152 => ?_) (fun c152 => ?_)
                  · have b153 : kb 0 lv 0 := kb_eq c152 kc_0
                    refine lv_iconst (v := 0) hx hb dX12_termOf_114 (by decide) ?_
                    refine va_put (D := D) (ci := 12) (v := .int 0) (ty := .boolean) (C := RX12) (T := TX12) (N := 48) hx hb hg inC12 tyX12 tyX12_ok nmX12 hown hK hP hD hS 0 rfl rfl 24 (by decide) (hg _ wt5_184) (fun _ h9 => h9) rfl (by decide +kernel) rfl rfl (Nat.le_of_ble_eq_true rfl) dX12_termOf_115 (fun H locs hP hD hS => ?_)
                    have hP : va_P D vwCl (mW K o r (upd u103 24 0) a g) H := hP
                    have hD : va_D A (mW K o r (upd u103 24 0) a g) := hD
                    refine k_gen (P := fun z => va_P D vwCl (mW K o r z a g) H ∧ va_D A (mW K o r z a g) ∧ (mI z a) ∧ (fE [22, 24] f z)) (upd u103 24 0) ⟨hP, hD, (mI_f hI (fI_st hI.1 24 kc_0 (by decide) (by decide))), (fE_f hE (by decide))⟩ (fun f_154 ef_154 hq => ?_)
                    obtain ⟨hP, hD, hI, hE⟩ := hq
                    refine lv_lconst (v := 1) hx hb dX12_termOf_118 (by decide) ?_
                    refine lv_lstore (lv' := [(5, .long 1), (4, .int 147), (2, .long y11), (0, .ref o), (1, .int lv)]) hx hb dX12_termOf_119 hl (by decide) rfl (fun ls hl => ?_)
                    refine lv_aload_n hx hb dX12_termOf_121 rfl (lv_at hl 3 rfl) ?_
                    refine lv_iload hx hb dX12_termOf_122 (lv_at hl 1 rfl) ?_
                    refine lv_bipush (v := 42) hx hb dX12_termOf_124 (by decide) ?_
                    refine kN.callS (As := [.int 42]) (rest := [.int 147, .ref o]) ⟨hx, hb, hml, hown, hg⟩ (m_sign l 42 (kb_w kc_42 (by decide) (by decide))) (va_cwS 1 hg (kgS wt6_220 wt6_221 wt1_14 wt6_222) rfl rfl rfl (by decide +kernel) ⟨by dsimp only [rmD]; omega, by dsimp only [rmD]; omega⟩) hP hS rfl hl.1 rfl (Nat.le_of_ble_eq_true rfl) dX12_termOf_126 ⟨Nat.le_refl _, Nat.le_refl _⟩ (fun v156 H locs hw155 hP hS => ?_)
                    refine k_top (z := 142) (Int32.toInt_inj.mp (hw155.2.trans (by decide +kernel))) ?_
                    refine lv_icmp_ne (tgt := 139) hx hb dX12_termOf_129 (by decide) (fun c158 => ?_) (fun c158 => ?_)
                    · refine lv_iload hx hb dX12_termOf_139 (lv_at hl 1 rfl) ?_
                      refine lv_bipush (v := 47) hx hb dX12_termOf_141 (by decide) ?_
                      refine kN.callS (As := [.int 47]) (rest := [.int 147, .ref o]) ⟨hx, hb, hml, hown, hg⟩ (m_sign l 47 (kb_w kc_47 (by decide) (by decide))) (va_cwS 1 hg (kgS wt6_220 wt6_221 wt1_14 wt6_222) rfl rfl rfl (by decide +kernel) ⟨by dsimp only [rmD]; omega, by dsimp only [rmD]; omega⟩) hP hS rfl hl.1 rfl (Nat.le_of_ble_eq_true rfl) dX12_termOf_143 ⟨Nat.le_refl _, Nat.le_refl _⟩ (fun v160 H locs hw159 hP hS => ?_)
                      refine k_top (z := 147) (Int32.toInt_inj.mp (hw159.2.trans (by decide +kernel))) ?_
                      refine lv_icmp_ne (tgt := 156) hx hb dX12_termOf_146 (by decide) (fun c162 => ?_) (fun c162 => ?_)
                      · exact kb_nsame c162 kc_147 kc_147
                      · refine lv_lload_n hx hb dX12_termOf_149 rfl (lv_at hl 2 rfl) ?_
                        refine lv_lload hx hb dX12_termOf_150 (lv_at hl 0 rfl) ?_
                        refine lv_ldiv hx hb dX12_termOf_152 (by decide +kernel) ?_
                        refine lv_topl (fun t163 et163 => ?_)
                        refine lv_goto (tgt := 160) hx hb dX12_termOf_153 (by decide) ?_
                        refine lv_iload_n hx hb dX12_termOf_160 rfl (lv_at hl 4 rfl) ?_
                        refine kL.callV (As := [.long t163, .int lv]) (rest := []) ⟨hx, hb, hml, hown, hg⟩ (n_bounded l o r f_154 a g hI t163 lv (kb_w b153 (by decide) (by decide)) ) (cwV 2 hg (kgV wt7_74 wt7_76 wp5_14 wt1_14 wt7_77) rfl rfl rfl (by decide +kernel) ⟨by dsimp only [rmD]; omega, by dsimp only [rmD]; omega⟩) hK hP hD hS hA mIs [] rfl (wr := []) rfl rfl rfl (fun i h => by cases h) 0 12 rfl rfl rfl hl.1 rfl (Nat.le_of_ble_eq_true rfl) dX12_termOf_161 ⟨Nat.le_refl _, Nat.le_refl _⟩ (fun v165 u166 H locs hw164 hP hD hS => ?_)
                        have hP : va_P D vwCl (mW K o r u166 a g) H := hP
                        have hD : va_D A (mW K o r u166 a g) := hD
                        have hI : mI u166 a := hw164.2.1
                        have eE167 : fE [24] f_154 u166 := hw164.2.2.1
                        have hE : fE [22, 24] f u166 := fE_tr hE (fE_w (by decide) eE167)
                        obtain ⟨bq168, ebq168⟩ : ∃ z : Int32, z = u166 24 := ⟨_, rfl⟩
                        have b169 : kb 0 bq168 1 := kb_eq ebq168 (fI_at hI.1 24 (by decide) (by decide))
                        have hbd : bdR lv 0 t163.toInt bq168 v165.toInt := by have w1 := hw164.2.2.2; rw [(show f_154 24 = 0 from by rw [← ef_154]; rfl), ← ebq168] at w1; exact w1
                        refine lv_lstore_n (lv' := [(2, .long v165), (5, .long 1), (4, .int 147), (0, .ref o), (1, .int lv)]) hx hb dX12_termOf_164 rfl hl (by decide) rfl (fun ls hl => ?_)
                        refine lv_goto (tgt := 6) hx hb dX12_termOf_165 (by decide) ?_
                        exact ihlp13 (mm) (jnO (opC (T i7)) xv ww) u166 _ _ _ v165 (h6) hI hE (by rw [((eE167 22 (by decide)).trans ((show f_154 22 = u103 22 from by rw [← ef_154]; rfl).trans egv105.symm))]; exact hg106) (by show mRs lv cb (jnO (opC (T i7)) xv ww Ws) (u166 24) v165.toInt; rw [ebq168.symm, show opC (T i7) = 8 from (by rw [h1]; decide +kernel)]; exact (m_jd (op := 8) (z' := 1) hacc hr109 (Or.inl ⟨(show v102.toInt = 0 from by rw [h132]; decide +kernel), rfl, (by rw [if_pos ⟨c133, fun q => absurd (c152.symm.trans q) (by decide +kernel)⟩])⟩) (b01 blv) (b01 (kb_w b151 (by decide) (by decide))) (fun n => absurd (show v102.toInt = 0 from by rw [h132]; decide +kernel) n) (fun e => by show (if _ = 0 then none else _) = none; rw [if_pos e]) (fun p => by rw [(show t163.toInt = y11.toInt.tdiv 1 from by rw [et163, l_div (mRs_o hacc), (by decide +kernel : (1 : Int64).toInt = 1)]), p]; exact Int.zero_tdiv _) (fun p => by rw [(show t163.toInt = y11.toInt.tdiv 1 from by rw [et163, l_div (mRs_o hacc), (by decide +kernel : (1 : Int64).toInt = 1)])]; exact l_divp p) hbd)) hP hD hS (lv_sub hl [0, 3, 4] rfl)
                    · exact kb_dj c158 kc_147 kc_142 (by decide)
                  · have b170 : kb 1 lv 1 := kr_nel c152 blv kc_0 (by decide)
                    refine lv_iconst (v := 1) hx hb dX12_termOf_110 (by decide) ?_
                    refine lv_goto (tgt := 115) hx hb dX12_termOf_111 (by decide) ?_
                    refine va_put (D := D) (ci := 12) (v := .int 1) (ty := .boolean) (C := RX12) (T := TX12) (N := 48) hx hb hg inC12 tyX12 tyX12_ok nmX12 hown hK hP hD hS 0 rfl rfl 24 (by decide) (hg _ wt5_184) (fun _ h9 => h9) rfl (by decide +kernel) rfl rfl (Nat.le_of_ble_eq_true rfl) dX12_termOf_115 (fun H locs hP hD hS => ?_)
                    have hP : va_P D vwCl (mW K o r (upd u103 24 1) a g) H := hP
                    have hD : va_D A (mW K o r (upd u103 24 1) a g) := hD
                    refine k_gen (P := fun z => va_P D vwCl (mW K o r z a g) H ∧ va_D A (mW K o r z a g) ∧ (mI z a) ∧ (fE [22, 24] f z)) (upd u103 24 1) ⟨hP, hD, (mI_f hI (fI_st hI.1 24 kc_1 (by decide) (by decide))), (fE_f hE (by decide))⟩ (fun f_171 ef_171 hq => ?_)
                    obtain ⟨hP, hD, hI, hE⟩ := hq
                    refine lv_lconst (v := 1) hx hb dX12_termOf_118 (by decide) ?_
                    refine lv_lstore (lv' := [(5, .long 1), (4, .int 147), (2, .long y11), (0, .ref o), (1, .int lv)]) hx hb dX12_termOf_119 hl (by decide) rfl (fun ls hl => ?_)
                    refine lv_aload_n hx hb dX12_termOf_121 rfl (lv_at hl 3 rfl) ?_
                    refine lv_iload hx hb dX12_termOf_122 (lv_at hl 1 rfl) ?_
                    refine lv_bipush (v := 42) hx hb dX12_termOf_124 (by decide) ?_
                    refine kN.callS (As := [.int 42]) (rest := [.int 147, .ref o]) ⟨hx, hb, hml, hown, hg⟩ (m_sign l 42 (kb_w kc_42 (by decide) (by decide))) (va_cwS 1 hg (kgS wt6_220 wt6_221 wt1_14 wt6_222) rfl rfl rfl (by decide +kernel) ⟨by dsimp only [rmD]; omega, by dsimp only [rmD]; omega⟩) hP hS rfl hl.1 rfl (Nat.le_of_ble_eq_true rfl) dX12_termOf_126 ⟨Nat.le_refl _, Nat.le_refl _⟩ (fun v173 H locs hw172 hP hS => ?_)
                    refine k_top (z := 142) (Int32.toInt_inj.mp (hw172.2.trans (by decide +kernel))) ?_
                    refine lv_icmp_ne (tgt := 139) hx hb dX12_termOf_129 (by decide) (fun c175 => ?_) (fun c175 => ?_)
                    · refine lv_iload hx hb dX12_termOf_139 (lv_at hl 1 rfl) ?_
                      refine lv_bipush (v := 47) hx hb dX12_termOf_141 (by decide) ?_
                      refine kN.callS (As := [.int 47]) (rest := [.int 147, .ref o]) ⟨hx, hb, hml, hown, hg⟩ (m_sign l 47 (kb_w kc_47 (by decide) (by decide))) (va_cwS 1 hg (kgS wt6_220 wt6_221 wt1_14 wt6_222) rfl rfl rfl (by decide +kernel) ⟨by dsimp only [rmD]; omega, by dsimp only [rmD]; omega⟩) hP hS rfl hl.1 rfl (Nat.le_of_ble_eq_true rfl) dX12_termOf_143 ⟨Nat.le_refl _, Nat.le_refl _⟩ (fun v177 H locs hw176 hP hS => ?_)
                      refine k_top (z := 147) (Int32.toInt_inj.mp (hw176.2.trans (by decide +kernel))) ?_
                      refine lv_icmp_ne (tgt := 156) hx hb dX12_termOf_146 (by decide) (fun c179 => ?_) (fun c179 => ?_)
                      · exact kb_nsame c179 kc_147 kc_147
                      · refine lv_lload_n hx hb dX12_termOf_149 rfl (lv_at hl 2 rfl) ?_
                        refine lv_lload hx hb dX12_termOf_150 (lv_at hl 0 rfl) ?_
                        refine lv_ldiv hx hb dX12_termOf_152 (by decide +kernel) ?_
                        refine lv_topl (fun t180 et180 => ?_)
                        refine lv_goto (tgt := 160) hx hb dX12_termOf_153 (by decide) ?_
                        refine lv_iload_n hx hb dX12_termOf_160 rfl (lv_at hl 4 rfl) ?_
                        refine kL.callV (As := [.long t180, .int lv]) (rest := []) ⟨hx, hb, hml, hown, hg⟩ (n_bounded l o r f_171 a g hI t180 lv (kb_w b170 (by decide) (by decide)) ) (cwV 2 hg (kgV wt7_74 wt7_76 wp5_14 wt1_14 wt7_77) rfl rfl rfl (by decide +kernel) ⟨by dsimp only [rmD]; omega, by dsimp only [rmD]; omega⟩) hK hP hD hS hA mIs [] rfl (wr := []) rfl rfl rfl (fun i h => by cases h) 0 12 rfl rfl rfl hl.1 rfl (Nat.le_of_ble_eq_true rfl) dX12_termOf_161 ⟨Nat.le_refl _, Nat.le_refl _⟩ (fun v182 u183 H locs hw181 hP hD hS => ?_)
                        have hP : va_P D vwCl (mW K o r u183 a g) H := hP
                        have hD : va_D A (mW K o r u183 a g) := hD
                        have hI : mI u183 a := hw181.2.1
                        have eE184 : fE [24] f_171 u183 := hw181.2.2.1
                        have hE : fE [22, 24] f u183 := fE_tr hE (fE_w (by decide) eE184)
                        obtain ⟨bq185, ebq185⟩ : ∃ z : Int32, z = u183 24 := ⟨_, rfl⟩
                        have b186 : kb 0 bq185 1 := kb_eq ebq185 (fI_at hI.1 24 (by decide) (by decide))
                        have hbd : bdR lv 1 t180.toInt bq185 v182.toInt := by have w1 := hw181.2.2.2; rw [(show f_171 24 = 1 from by rw [← ef_171]; rfl), ← ebq185] at w1; exact w1
                        refine lv_lstore_n (lv' := [(2, .long v182), (5, .long 1), (4, .int 147), (0, .ref o), (1, .int lv)]) hx hb dX12_termOf_164 rfl hl (by decide) rfl (fun ls hl => ?_)
                        refine lv_goto (tgt := 6) hx hb dX12_termOf_165 (by decide) ?_
                        exact ihlp13 (mm) (jnO (opC (T i7)) xv ww) u183 _ _ _ v182 (h6) hI hE (by rw [((eE184 22 (by decide)).trans ((show f_171 22 = u103 22 from by rw [← ef_171]; rfl).trans egv105.symm))]; exact hg106) (by show mRs lv cb (jnO (opC (T i7)) xv ww Ws) (u183 24) v182.toInt; rw [ebq185.symm, show opC (T i7) = 8 from (by rw [h1]; decide +kernel)]; exact (m_jd (op := 8) (z' := 1) hacc hr109 (Or.inl ⟨(show v102.toInt = 0 from by rw [h132]; decide +kernel), rfl, (by rw [if_neg (fun q => q.2 (kb_11 b170))])⟩) (b01 blv) (b01 (kb_w b151 (by decide) (by decide))) (fun n => absurd (show v102.toInt = 0 from by rw [h132]; decide +kernel) n) (fun e => by show (if _ = 0 then none else _) = none; rw [if_pos e]) (fun p => by rw [(show t180.toInt = y11.toInt.tdiv 1 from by rw [et180, l_div (mRs_o hacc), (by decide +kernel : (1 : Int64).toInt = 1)]), p]; exact Int.zero_tdiv _) (fun p => by rw [(show t180.toInt = y11.toInt.tdiv 1 from by rw [et180, l_div (mRs_o hacc), (by decide +kernel : (1 : Int64).toInt = 1)])]; exact l_divp p) hbd)) hP hD hS (lv_sub hl [0, 3, 4] rfl)
                    · exact kb_dj c175 kc_147 kc_142 (by decide)
          · exact kb_nsame c93 kc_147 kc_147
      · have b187 : kb 0 gv15 2799 := kb_go (eS_fE hE hp0 (by decide) (by decide)) (mC_lt (eS_fE hE hp0 (by decide) (by decide)) (ne_0 (tq_y hp2 (x := 137) (y := 3037) (by decide +kernel) (by decide +kernel) h1) (by decide +kernel))) hg16
        refine lv_aload_n hx hb dX12_termOf_6 rfl (lv_at hl 1 rfl) ?_
        refine lv_aload_n hx hb dX12_termOf_7 rfl (lv_at hl 1 rfl) ?_
        refine va_get (D := D) (ci := 12) (v := .int (F12 22)) (C := RX12) (T := TX12) (N := 48) hx hb hg inC12 hown hK hP 0 rfl rfl 22 (by decide) (hg _ wt5_182) (fun _ h9 => h9) rfl dX12_termOf_8 ?_
        refine k_top (z := gv15) egv15.symm ?_
        refine kI.callV (As := [.int gv15]) (rest := []) ⟨hx, hb, hml, hown, hg⟩ (m_codeAt l o r F12 a g hI gv15  t (i7) ob (eS_fE hE hp0 (by decide) (by decide)) hg16) (cwV 1 hg (kgV wt7_47 wt7_49 wp5_8 wt1_14 wt7_50) rfl rfl rfl (by decide +kernel) ⟨by dsimp only [rmD]; omega, by dsimp only [rmD]; omega⟩) hK hP hD hS hA mIs [] rfl (wr := []) rfl rfl rfl (fun i h => by cases h) 0 12 rfl rfl rfl hl.1 rfl (Nat.le_of_ble_eq_true rfl) dX12_termOf_11 ⟨Nat.le_refl _, Nat.le_refl _⟩ (fun v189 u190 H locs hw188 hP hD hS => ?_)
        have hP : va_P D vwCl (mW K o r F12 a g) H := hP
        have hD : va_D A (mW K o r F12 a g) := hD
        refine k_top (z := 137) (hw188.2.trans (tq_y hp2 (x := 137) (y := 3037) (by decide +kernel) (by decide +kernel) h1)) ?_
        refine lv_bipush (v := 42) hx hb dX12_termOf_14 (by decide) ?_
        refine kN.callS (As := [.int 42]) (rest := [.int 137]) ⟨hx, hb, hml, hown, hg⟩ (m_sign l 42 (kb_w kc_42 (by decide) (by decide))) (va_cwS 1 hg (kgS wt6_220 wt6_221 wt1_14 wt6_222) rfl rfl rfl (by decide +kernel) ⟨by dsimp only [rmD]; omega, by dsimp only [rmD]; omega⟩) hP hS rfl hl.1 rfl (Nat.le_of_ble_eq_true rfl) dX12_termOf_16 ⟨Nat.le_refl _, Nat.le_refl _⟩ (fun v192 H locs hw191 hP hS => ?_)
        refine k_top (z := 142) (Int32.toInt_inj.mp (hw191.2.trans (by decide +kernel))) ?_
        refine lv_icmp_eq (tgt := 54) hx hb dX12_termOf_19 (by decide) (fun c194 => ?_) (fun c194 => ?_)
        · exact kb_dj c194 kc_137 kc_142 (by decide)
        · refine lv_aload_n hx hb dX12_termOf_22 rfl (lv_at hl 1 rfl) ?_
          refine lv_aload_n hx hb dX12_termOf_23 rfl (lv_at hl 1 rfl) ?_
          refine va_get (D := D) (ci := 12) (v := .int (F12 22)) (C := RX12) (T := TX12) (N := 48) hx hb hg inC12 hown hK hP 0 rfl rfl 22 (by decide) (hg _ wt5_182) (fun _ h9 => h9) rfl dX12_termOf_24 ?_
          refine k_top (z := gv15) egv15.symm ?_
          refine kI.callV (As := [.int gv15]) (rest := []) ⟨hx, hb, hml, hown, hg⟩ (m_codeAt l o r F12 a g hI gv15  t (i7) ob (eS_fE hE hp0 (by decide) (by decide)) hg16) (cwV 1 hg (kgV wt7_47 wt7_49 wp5_8 wt1_14 wt7_50) rfl rfl rfl (by decide +kernel) ⟨by dsimp only [rmD]; omega, by dsimp only [rmD]; omega⟩) hK hP hD hS hA mIs [] rfl (wr := []) rfl rfl rfl (fun i h => by cases h) 0 12 rfl rfl rfl hl.1 rfl (Nat.le_of_ble_eq_true rfl) dX12_termOf_27 ⟨Nat.le_refl _, Nat.le_refl _⟩ (fun v196 u197 H locs hw195 hP hD hS => ?_)
          have hP : va_P D vwCl (mW K o r F12 a g) H := hP
          have hD : va_D A (mW K o r F12 a g) := hD
          refine k_top (z := 137) (hw195.2.trans (tq_y hp2 (x := 137) (y := 3037) (by decide +kernel) (by decide +kernel) h1)) ?_
          refine lv_bipush (v := 47) hx hb dX12_termOf_30 (by decide) ?_
          refine kN.callS (As := [.int 47]) (rest := [.int 137]) ⟨hx, hb, hml, hown, hg⟩ (m_sign l 47 (kb_w kc_47 (by decide) (by decide))) (va_cwS 1 hg (kgS wt6_220 wt6_221 wt1_14 wt6_222) rfl rfl rfl (by decide +kernel) ⟨by dsimp only [rmD]; omega, by dsimp only [rmD]; omega⟩) hP hS rfl hl.1 rfl (Nat.le_of_ble_eq_true rfl) dX12_termOf_32 ⟨Nat.le_refl _, Nat.le_refl _⟩ (fun v199 H locs hw198 hP hS => ?_)
          refine k_top (z := 147) (Int32.toInt_inj.mp (hw198.2.trans (by decide +kernel))) ?_
          refine lv_icmp_eq (tgt := 54) hx hb dX12_termOf_35 (by decide) (fun c201 => ?_) (fun c201 => ?_)
          · exact kb_dj c201 kc_137 kc_147 (by decide)
          · refine lv_aload_n hx hb dX12_termOf_38 rfl (lv_at hl 1 rfl) ?_
            refine lv_aload_n hx hb dX12_termOf_39 rfl (lv_at hl 1 rfl) ?_
            refine va_get (D := D) (ci := 12) (v := .int (F12 22)) (C := RX12) (T := TX12) (N := 48) hx hb hg inC12 hown hK hP 0 rfl rfl 22 (by decide) (hg _ wt5_182) (fun _ h9 => h9) rfl dX12_termOf_40 ?_
            refine k_top (z := gv15) egv15.symm ?_
            refine kI.callV (As := [.int gv15]) (rest := []) ⟨hx, hb, hml, hown, hg⟩ (m_codeAt l o r F12 a g hI gv15  t (i7) ob (eS_fE hE hp0 (by decide) (by decide)) hg16) (cwV 1 hg (kgV wt7_47 wt7_49 wp5_8 wt1_14 wt7_50) rfl rfl rfl (by decide +kernel) ⟨by dsimp only [rmD]; omega, by dsimp only [rmD]; omega⟩) hK hP hD hS hA mIs [] rfl (wr := []) rfl rfl rfl (fun i h => by cases h) 0 12 rfl rfl rfl hl.1 rfl (Nat.le_of_ble_eq_true rfl) dX12_termOf_43 ⟨Nat.le_refl _, Nat.le_refl _⟩ (fun v203 u204 H locs hw202 hP hD hS => ?_)
            have hP : va_P D vwCl (mW K o r F12 a g) H := hP
            have hD : va_D A (mW K o r F12 a g) := hD
            refine k_top (z := 137) (hw202.2.trans (tq_y hp2 (x := 137) (y := 3037) (by decide +kernel) (by decide +kernel) h1)) ?_
            refine lv_bipush (v := 37) hx hb dX12_termOf_46 (by decide) ?_
            refine kN.callS (As := [.int 37]) (rest := [.int 137]) ⟨hx, hb, hml, hown, hg⟩ (m_sign l 37 (kb_w kc_37 (by decide) (by decide))) (va_cwS 1 hg (kgS wt6_220 wt6_221 wt1_14 wt6_222) rfl rfl rfl (by decide +kernel) ⟨by dsimp only [rmD]; omega, by dsimp only [rmD]; omega⟩) hP hS rfl hl.1 rfl (Nat.le_of_ble_eq_true rfl) dX12_termOf_48 ⟨Nat.le_refl _, Nat.le_refl _⟩ (fun v206 H locs hw205 hP hS => ?_)
            refine k_top (z := 137) (Int32.toInt_inj.mp (hw205.2.trans (by decide +kernel))) ?_
            refine lv_icmp_ne (tgt := 168) hx hb dX12_termOf_51 (by decide) (fun c208 => ?_) (fun c208 => ?_)
            · exact kb_nsame c208 kc_137 kc_137
            · refine lv_aload_n hx hb dX12_termOf_54 rfl (lv_at hl 1 rfl) ?_
              refine lv_aload_n hx hb dX12_termOf_55 rfl (lv_at hl 1 rfl) ?_
              refine va_get (D := D) (ci := 12) (v := .int (F12 22)) (C := RX12) (T := TX12) (N := 48) hx hb hg inC12 hown hK hP 0 rfl rfl 22 (by decide) (hg _ wt5_182) (fun _ h9 => h9) rfl dX12_termOf_56 ?_
              refine k_top (z := gv15) egv15.symm ?_
              refine kI.callV (As := [.int gv15]) (rest := []) ⟨hx, hb, hml, hown, hg⟩ (m_codeAt l o r F12 a g hI gv15  t (i7) ob (eS_fE hE hp0 (by decide) (by decide)) hg16) (cwV 1 hg (kgV wt7_47 wt7_49 wp5_8 wt1_14 wt7_50) rfl rfl rfl (by decide +kernel) ⟨by dsimp only [rmD]; omega, by dsimp only [rmD]; omega⟩) hK hP hD hS hA mIs [] rfl (wr := []) rfl rfl rfl (fun i h => by cases h) 0 12 rfl rfl rfl hl.1 rfl (Nat.le_of_ble_eq_true rfl) dX12_termOf_59 ⟨Nat.le_refl _, Nat.le_refl _⟩ (fun v210 u211 H locs hw209 hP hD hS => ?_)
              have hP : va_P D vwCl (mW K o r F12 a g) H := hP
              have hD : va_D A (mW K o r F12 a g) := hD
              refine k_top (z := 137) (hw209.2.trans (tq_y hp2 (x := 137) (y := 3037) (by decide +kernel) (by decide +kernel) h1)) ?_
              refine lv_istore (lv' := [(4, .int 137), (2, .long y11), (0, .ref o), (1, .int lv)]) hx hb dX12_termOf_62 hl (by decide) rfl (fun ls hl => ?_)
              refine lv_aload_n hx hb dX12_termOf_64 rfl (lv_at hl 2 rfl) ?_
              refine lv_dup hx hb dX12_termOf_65 rfl ?_
              refine va_get (D := D) (ci := 12) (v := .int (F12 22)) (C := RX12) (T := TX12) (N := 48) hx hb hg inC12 hown hK hP 0 rfl rfl 22 (by decide) (hg _ wt5_182) (fun _ h9 => h9) rfl dX12_termOf_66 ?_
              refine k_top (z := gv15) egv15.symm ?_
              refine lv_iconst (v := 1) hx hb dX12_termOf_69 (by decide) ?_
              refine lv_iadd hx hb dX12_termOf_70 ?_
              refine lv_topi (fun t212 et212 => ?_)
              have b213 : kb 1 t212 2800 := kb_eq et212 (kb_add b187 kc_1 (by decide) (by decide))
              have qt212 : t212.toInt = gv15.toInt + 1 := by rw [et212]; exact kt_addc b187 kc_1 (by decide) (by decide)
              have hg214 : t212.toInt = 400 * (t : Int) + ((i7 + 1 : Nat) : Int) := by rw [qt212, hg16]; omega
              refine va_put (D := D) (ci := 12) (v := .int t212) (ty := .int) (C := RX12) (T := TX12) (N := 48) hx hb hg inC12 tyX12 tyX12_ok nmX12 hown hK hP hD hS 0 rfl rfl 22 (by decide) (hg _ wt5_182) (fun _ h9 => h9) rfl (by decide +kernel) rfl rfl (Nat.le_of_ble_eq_true rfl) dX12_termOf_71 (fun H locs hP hD hS => ?_)
              have hP : va_P D vwCl (mW K o r (upd F12 22 t212) a g) H := hP
              have hD : va_D A (mW K o r (upd F12 22 t212) a g) := hD
              refine k_gen (P := fun z => va_P D vwCl (mW K o r z a g) H ∧ va_D A (mW K o r z a g) ∧ (mI z a) ∧ (fE [22, 24] f z)) (upd F12 22 t212) ⟨hP, hD, (mI_f hI (fI_st hI.1 22 (kb_any _) (by decide) (by decide))), (fE_f hE (by decide))⟩ (fun f_215 ef_215 hq => ?_)
              obtain ⟨hP, hD, hI, hE⟩ := hq
              refine lv_aload_n hx hb dX12_termOf_74 rfl (lv_at hl 2 rfl) ?_
              refine lv_iload_n hx hb dX12_termOf_75 rfl (lv_at hl 3 rfl) ?_
              refine kL.callV (As := [.int lv]) (rest := []) ⟨hx, hb, hml, hown, hg⟩ (hpart l o r f_215 a g hI lv blv t (i7 + 1) (mm) ob T Ws ww (eS_fE hE hp0 (by decide) (by decide)) (by rw [(show f_215 22 = t212 from by rw [← ef_215]; rfl)]; exact hg214) hp2 (wQ_fE hE hp3 (by decide) (by decide)) (eG_of ht)) (cwV 1 hg (kgV wt7_59 wt7_61 wp5_11 wt1_14 wt7_62) rfl rfl rfl (by decide +kernel) ⟨by dsimp only [rmD]; omega, by dsimp only [rmD]; omega⟩) hK hP hD hS hA mIs [] rfl (wr := []) rfl rfl rfl (fun i h => by cases h) 0 12 rfl rfl rfl hl.1 rfl (Nat.le_of_ble_eq_true rfl) dX12_termOf_76 ⟨Nat.le_refl _, Nat.le_refl _⟩ (fun v217 u218 H locs hw216 hP hD hS => ?_)
              have hP : va_P D vwCl (mW K o r u218 a g) H := hP
              have hD : va_D A (mW K o r u218 a g) := hD
              have hI : mI u218 a := hw216.2.1
              have eE219 : fE [22, 24] f_215 u218 := hw216.2.2.1
              have hE : fE [22, 24] f u218 := fE_tr hE eE219
              obtain ⟨gv220, egv220⟩ : ∃ z : Int32, z = u218 22 := ⟨_, rfl⟩
              have hg221 : gv220.toInt = 400 * (t : Int) + ((mm : Nat) : Int) := by rw [egv220]; exact hw216.2.2.2.1
              obtain ⟨bq222, ebq222⟩ : ∃ z : Int32, z = u218 24 := ⟨_, rfl⟩
              have b223 : kb 0 bq222 1 := kb_eq ebq222 (fI_at hI.1 24 (by decide) (by decide))
              have hr224 : mRs lv bq17 (ww Ws) bq222 v217.toInt := by have w1 := hw216.2.2.2.2; rw [((show f_215 24 = F12 24 from by rw [← ef_215]; rfl).trans ebq17.symm), ← ebq222] at w1; exact w1
              refine lv_lstore (lv' := [(5, .long v217), (4, .int 137), (2, .long y11), (0, .ref o), (1, .int lv)]) hx hb dX12_termOf_79 hl (by decide) rfl (fun ls hl => ?_)
              refine lv_iload hx hb dX12_termOf_81 (lv_at hl 1 rfl) ?_
              refine lv_bipush (v := 42) hx hb dX12_termOf_83 (by decide) ?_
              refine kN.callS (As := [.int 42]) (rest := [.int 137]) ⟨hx, hb, hml, hown, hg⟩ (m_sign l 42 (kb_w kc_42 (by decide) (by decide))) (va_cwS 1 hg (kgS wt6_220 wt6_221 wt1_14 wt6_222) rfl rfl rfl (by decide +kernel) ⟨by dsimp only [rmD]; omega, by dsimp only [rmD]; omega⟩) hP hS rfl hl.1 rfl (Nat.le_of_ble_eq_true rfl) dX12_termOf_85 ⟨Nat.le_refl _, Nat.le_refl _⟩ (fun v226 H locs hw225 hP hS => ?_)
              refine k_top (z := 142) (Int32.toInt_inj.mp (hw225.2.trans (by decide +kernel))) ?_
              refine lv_icmp_eq (tgt := 121) hx hb dX12_termOf_88 (by decide) (fun c228 => ?_) (fun c228 => ?_)
              · exact kb_dj c228 kc_137 kc_142 (by decide)
              · refine lv_lload hx hb dX12_termOf_91 (lv_at hl 0 rfl) ?_
                refine lv_lconst (v := 0) hx hb dX12_termOf_93 (by decide) ?_
                refine W.lcmp hx hb dX12_termOf_94 ?_
                refine lv_topi (fun t229 et229 => ?_)
                refine lv_if_ne (tgt := 121) hx hb dX12_termOf_95 (by decide) (fun c230 => ?_) (fun c230 => ?_)
                · have h231 := klc_ne (et229 ▸ c230)
                  refine lv_aload_n hx hb dX12_termOf_121 rfl (lv_at hl 3 rfl) ?_
                  refine lv_iload hx hb dX12_termOf_122 (lv_at hl 1 rfl) ?_
                  refine lv_bipush (v := 42) hx hb dX12_termOf_124 (by decide) ?_
                  refine kN.callS (As := [.int 42]) (rest := [.int 137, .ref o]) ⟨hx, hb, hml, hown, hg⟩ (m_sign l 42 (kb_w kc_42 (by decide) (by decide))) (va_cwS 1 hg (kgS wt6_220 wt6_221 wt1_14 wt6_222) rfl rfl rfl (by decide +kernel) ⟨by dsimp only [rmD]; omega, by dsimp only [rmD]; omega⟩) hP hS rfl hl.1 rfl (Nat.le_of_ble_eq_true rfl) dX12_termOf_126 ⟨Nat.le_refl _, Nat.le_refl _⟩ (fun v233 H locs hw232 hP hS => ?_)
                  refine k_top (z := 142) (Int32.toInt_inj.mp (hw232.2.trans (by decide +kernel))) ?_
                  refine lv_icmp_ne (tgt := 139) hx hb dX12_termOf_129 (by decide) (fun c235 => ?_) (fun c235 => ?_)
                  · refine lv_iload hx hb dX12_termOf_139 (lv_at hl 1 rfl) ?_
                    refine lv_bipush (v := 47) hx hb dX12_termOf_141 (by decide) ?_
                    refine kN.callS (As := [.int 47]) (rest := [.int 137, .ref o]) ⟨hx, hb, hml, hown, hg⟩ (m_sign l 47 (kb_w kc_47 (by decide) (by decide))) (va_cwS 1 hg (kgS wt6_220 wt6_221 wt1_14 wt6_222) rfl rfl rfl (by decide +kernel) ⟨by dsimp only [rmD]; omega, by dsimp only [rmD]; omega⟩) hP hS rfl hl.1 rfl (Nat.le_of_ble_eq_true rfl) dX12_termOf_143 ⟨Nat.le_refl _, Nat.le_refl _⟩ (fun v237 H locs hw236 hP hS => ?_)
                    refine k_top (z := 147) (Int32.toInt_inj.mp (hw236.2.trans (by decide +kernel))) ?_
                    refine lv_icmp_ne (tgt := 156) hx hb dX12_termOf_146 (by decide) (fun c239 => ?_) (fun c239 => ?_)
                    · refine lv_lload_n hx hb dX12_termOf_156 rfl (lv_at hl 2 rfl) ?_
                      refine lv_lload hx hb dX12_termOf_157 (lv_at hl 0 rfl) ?_
                      refine lv_lrem hx hb dX12_termOf_159 h231 ?_
                      refine lv_topl (fun t240 et240 => ?_)
                      refine lv_iload_n hx hb dX12_termOf_160 rfl (lv_at hl 4 rfl) ?_
                      refine kL.callV (As := [.long t240, .int lv]) (rest := []) ⟨hx, hb, hml, hown, hg⟩ (n_bounded l o r u218 a g hI t240 lv blv ) (cwV 2 hg (kgV wt7_74 wt7_76 wp5_14 wt1_14 wt7_77) rfl rfl rfl (by decide +kernel) ⟨by dsimp only [rmD]; omega, by dsimp only [rmD]; omega⟩) hK hP hD hS hA mIs [] rfl (wr := []) rfl rfl rfl (fun i h => by cases h) 0 12 rfl rfl rfl hl.1 rfl (Nat.le_of_ble_eq_true rfl) dX12_termOf_161 ⟨Nat.le_refl _, Nat.le_refl _⟩ (fun v242 u243 H locs hw241 hP hD hS => ?_)
                      have hP : va_P D vwCl (mW K o r u243 a g) H := hP
                      have hD : va_D A (mW K o r u243 a g) := hD
                      have hI : mI u243 a := hw241.2.1
                      have eE244 : fE [24] u218 u243 := hw241.2.2.1
                      have hE : fE [22, 24] f u243 := fE_tr hE (fE_w (by decide) eE244)
                      obtain ⟨bq245, ebq245⟩ : ∃ z : Int32, z = u243 24 := ⟨_, rfl⟩
                      have b246 : kb 0 bq245 1 := kb_eq ebq245 (fI_at hI.1 24 (by decide) (by decide))
                      have hbd : bdR lv bq222 t240.toInt bq245 v242.toInt := by have w1 := hw241.2.2.2; rw [ebq222.symm, ← ebq245] at w1; exact w1
                      refine lv_lstore_n (lv' := [(2, .long v242), (5, .long v217), (4, .int 137), (0, .ref o), (1, .int lv)]) hx hb dX12_termOf_164 rfl hl (by decide) rfl (fun ls hl => ?_)
                      refine lv_goto (tgt := 6) hx hb dX12_termOf_165 (by decide) ?_
                      exact ihlp13 (mm) (jnO (opC (T i7)) xv ww) u243 _ _ _ v242 (h6) hI hE (by rw [((eE244 22 (by decide)).trans egv220.symm)]; exact hg221) (by show mRs lv cb (jnO (opC (T i7)) xv ww Ws) (u243 24) v242.toInt; rw [ebq245.symm, show opC (T i7) = 9 from (by rw [h1]; decide +kernel)]; exact (m_jd (op := 9) (z' := v217.toInt) hacc hr224 (Or.inr ⟨(fun e => h231 (Int64.toInt_inj.mp (e.trans (by decide +kernel)))), rfl, rfl⟩) (b01 blv) (b01 b223) (fun n => by show (if _ = 0 then none else bnd _) = _; rw [if_neg n, (show t240.toInt = y11.toInt.tmod v217.toInt from by rw [et240]; exact l_rem (mRs_o hacc) (mRs_o hr224))]) (fun e => absurd e (fun e => h231 (Int64.toInt_inj.mp (e.trans (by decide +kernel))))) (fun p => by rw [(show t240.toInt = y11.toInt.tmod v217.toInt from by rw [et240]; exact l_rem (mRs_o hacc) (mRs_o hr224)), p]; exact Int.zero_tmod _) (fun p => by rw [(show t240.toInt = y11.toInt.tmod v217.toInt from by rw [et240]; exact l_rem (mRs_o hacc) (mRs_o hr224))]; exact l_modp p) hbd)) hP hD hS (lv_sub hl [0, 3, 4] rfl)
                    · exact kb_dj c239 kc_137 kc_147 (by decide)
                  · exact kb_dj c235 kc_137 kc_142 (by decide)
                · have h247 := klc_eq (et229 ▸ c230)
                  refine lv_aload_n hx hb dX12_termOf_98 rfl (lv_at hl 3 rfl) ?_
                  refine lv_aload_n hx hb dX12_termOf_99 rfl (lv_at hl 3 rfl) ?_
                  refine va_get (D := D) (ci := 12) (v := .int (u218 24)) (C := RX12) (T := TX12) (N := 48) hx hb hg inC12 hown hK hP 0 rfl rfl 24 (by decide) (hg _ wt5_184) (fun _ h9 => h9) rfl dX12_termOf_100 ?_
                  refine k_top (z := bq222) ebq222.symm ?_
                  refine lv_if_ne (tgt := 110) hx hb dX12_termOf_103 (by decide) (fun c248 => ?_) (fun c248 => ?_)
                  · have b249 : kb 1 bq222 1 := kr_nel c248 b223 kc_0 (by decide)
                    refine lv_iconst (v := 1) hx hb dX12_termOf_110 (by decide) ?_
                    refine lv_goto (tgt := 115) hx hb dX12_termOf_111 (by decide) ?_
                    refine va_put (D := D) (ci := 12) (v := .int 1) (ty := .boolean) (C := RX12) (T := TX12) (N := 48) hx hb hg inC12 tyX12 tyX12_ok nmX12 hown hK hP hD hS 0 rfl rfl 24 (by decide) (hg _ wt5_184) (fun _ h9 => h9) rfl (by decide +kernel) rfl rfl (Nat.le_of_ble_eq_true rfl) dX12_termOf_115 (fun H locs hP hD hS => ?_)
                    have hP : va_P D vwCl (mW K o r (upd u218 24 1) a g) H := hP
                    have hD : va_D A (mW K o r (upd u218 24 1) a g) := hD
                    refine k_gen (P := fun z => va_P D vwCl (mW K o r z a g) H ∧ va_D A (mW K o r z a g) ∧ (mI z a) ∧ (fE [22, 24] f z)) (upd u218 24 1) ⟨hP, hD, (mI_f hI (fI_st hI.1 24 kc_1 (by decide) (by decide))), (fE_f hE (by decide))⟩ (fun f_250 ef_250 hq => ?_)
                    obtain ⟨hP, hD, hI, hE⟩ := hq
                    refine lv_lconst (v := 1) hx hb dX12_termOf_118 (by decide) ?_
                    refine lv_lstore (lv' := [(5, .long 1), (4, .int 137), (2, .long y11), (0, .ref o), (1, .int lv)]) hx hb dX12_termOf_119 hl (by decide) rfl (fun ls hl => ?_)
                    refine lv_aload_n hx hb dX12_termOf_121 rfl (lv_at hl 3 rfl) ?_
                    refine lv_iload hx hb dX12_termOf_122 (lv_at hl 1 rfl) ?_
                    refine lv_bipush (v := 42) hx hb dX12_termOf_124 (by decide) ?_
                    refine kN.callS (As := [.int 42]) (rest := [.int 137, .ref o]) ⟨hx, hb, hml, hown, hg⟩ (m_sign l 42 (kb_w kc_42 (by decide) (by decide))) (va_cwS 1 hg (kgS wt6_220 wt6_221 wt1_14 wt6_222) rfl rfl rfl (by decide +kernel) ⟨by dsimp only [rmD]; omega, by dsimp only [rmD]; omega⟩) hP hS rfl hl.1 rfl (Nat.le_of_ble_eq_true rfl) dX12_termOf_126 ⟨Nat.le_refl _, Nat.le_refl _⟩ (fun v252 H locs hw251 hP hS => ?_)
                    refine k_top (z := 142) (Int32.toInt_inj.mp (hw251.2.trans (by decide +kernel))) ?_
                    refine lv_icmp_ne (tgt := 139) hx hb dX12_termOf_129 (by decide) (fun c254 => ?_) (fun c254 => ?_)
                    · refine lv_iload hx hb dX12_termOf_139 (lv_at hl 1 rfl) ?_
                      refine lv_bipush (v := 47) hx hb dX12_termOf_141 (by decide) ?_
                      refine kN.callS (As := [.int 47]) (rest := [.int 137, .ref o]) ⟨hx, hb, hml, hown, hg⟩ (m_sign l 47 (kb_w kc_47 (by decide) (by decide))) (va_cwS 1 hg (kgS wt6_220 wt6_221 wt1_14 wt6_222) rfl rfl rfl (by decide +kernel) ⟨by dsimp only [rmD]; omega, by dsimp only [rmD]; omega⟩) hP hS rfl hl.1 rfl (Nat.le_of_ble_eq_true rfl) dX12_termOf_143 ⟨Nat.le_refl _, Nat.le_refl _⟩ (fun v256 H locs hw255 hP hS => ?_)
                      refine k_top (z := 147) (Int32.toInt_inj.mp (hw255.2.trans (by decide +kernel))) ?_
                      refine lv_icmp_ne (tgt := 156) hx hb dX12_termOf_146 (by decide) (fun c258 => ?_) (fun c258 => ?_)
                      · refine lv_lload_n hx hb dX12_termOf_156 rfl (lv_at hl 2 rfl) ?_
                        refine lv_lload hx hb dX12_termOf_157 (lv_at hl 0 rfl) ?_
                        refine lv_lrem hx hb dX12_termOf_159 (by decide +kernel) ?_
                        refine lv_topl (fun t259 et259 => ?_)
                        refine lv_iload_n hx hb dX12_termOf_160 rfl (lv_at hl 4 rfl) ?_
                        refine kL.callV (As := [.long t259, .int lv]) (rest := []) ⟨hx, hb, hml, hown, hg⟩ (n_bounded l o r f_250 a g hI t259 lv blv ) (cwV 2 hg (kgV wt7_74 wt7_76 wp5_14 wt1_14 wt7_77) rfl rfl rfl (by decide +kernel) ⟨by dsimp only [rmD]; omega, by dsimp only [rmD]; omega⟩) hK hP hD hS hA mIs [] rfl (wr := []) rfl rfl rfl (fun i h => by cases h) 0 12 rfl rfl rfl hl.1 rfl (Nat.le_of_ble_eq_true rfl) dX12_termOf_161 ⟨Nat.le_refl _, Nat.le_refl _⟩ (fun v261 u262 H locs hw260 hP hD hS => ?_)
                        have hP : va_P D vwCl (mW K o r u262 a g) H := hP
                        have hD : va_D A (mW K o r u262 a g) := hD
                        have hI : mI u262 a := hw260.2.1
                        have eE263 : fE [24] f_250 u262 := hw260.2.2.1
                        have hE : fE [22, 24] f u262 := fE_tr hE (fE_w (by decide) eE263)
                        obtain ⟨bq264, ebq264⟩ : ∃ z : Int32, z = u262 24 := ⟨_, rfl⟩
                        have b265 : kb 0 bq264 1 := kb_eq ebq264 (fI_at hI.1 24 (by decide) (by decide))
                        have hbd : bdR lv 1 t259.toInt bq264 v261.toInt := by have w1 := hw260.2.2.2; rw [(show f_250 24 = 1 from by rw [← ef_250]; rfl), ← ebq264] at w1; exact w1
                        refine lv_lstore_n (lv' := [(2, .long v261), (5, .long 1), (4, .int 137), (0, .ref o), (1, .int lv)]) hx hb dX12_termOf_164 rfl hl (by decide) rfl (fun ls hl => ?_)
                        refine lv_goto (tgt := 6) hx hb dX12_termOf_165 (by decide) ?_
                        exact ihlp13 (mm) (jnO (opC (T i7)) xv ww) u262 _ _ _ v261 (h6) hI hE (by rw [((eE263 22 (by decide)).trans ((show f_250 22 = u218 22 from by rw [← ef_250]; rfl).trans egv220.symm))]; exact hg221) (by show mRs lv cb (jnO (opC (T i7)) xv ww Ws) (u262 24) v261.toInt; rw [ebq264.symm, show opC (T i7) = 9 from (by rw [h1]; decide +kernel)]; exact (m_jd (op := 9) (z' := 1) hacc hr224 (Or.inl ⟨(show v217.toInt = 0 from by rw [h247]; decide +kernel), rfl, (by rw [if_neg (fun q => c248 q.1)])⟩) (b01 blv) (b01 (kb_w b249 (by decide) (by decide))) (fun n => absurd (show v217.toInt = 0 from by rw [h247]; decide +kernel) n) (fun e => by show (if _ = 0 then none else _) = none; rw [if_pos e]) (fun p => by rw [(show t259.toInt = y11.toInt.tmod 1 from by rw [et259, l_rem (mRs_o hacc) (by rw [(by decide +kernel : (1 : Int64).toInt = 1)]; unfold oBd; omega), (by decide +kernel : (1 : Int64).toInt = 1)]), p]; exact Int.zero_tmod _) (fun p => by rw [(show t259.toInt = y11.toInt.tmod 1 from by rw [et259, l_rem (mRs_o hacc) (by rw [(by decide +kernel : (1 : Int64).toInt = 1)]; unfold oBd; omega), (by decide +kernel : (1 : Int64).toInt = 1)])]; exact l_modp p) hbd)) hP hD hS (lv_sub hl [0, 3, 4] rfl)
                      · exact kb_dj c258 kc_137 kc_147 (by decide)
                    · exact kb_dj c254 kc_137 kc_142 (by decide)
                  · have b266 : kb 0 bq222 0 := kb_eq c248 kc_0
                    refine lv_iload_n hx hb dX12_termOf_106 rfl (lv_at hl 4 rfl) ?_
                    refine lv_if_eq (tgt := 114) hx hb dX12_termOf_107 (by decide) (fun c267 => ?_) (fun c267 => ?_)
                    · have b268 : kb 0 lv 0 := kb_eq c267 kc_0
                      refine lv_iconst (v := 0) hx hb dX12_termOf_114 (by decide) ?_
                      refine va_put (D := D) (ci := 12) (v := .int 0) (ty := .boolean) (C := RX12) (T := TX12) (N := 48) hx hb hg inC12 tyX12 tyX12_ok nmX12 hown hK hP hD hS 0 rfl rfl 24 (by decide) (hg _ wt5_184) (fun _ h9 => h9) rfl (by decide +kernel) rfl rfl (Nat.le_of_ble_eq_true rfl) dX12_termOf_115 (fun H locs hP hD hS => ?_)
                      have hP : va_P D vwCl (mW K o r (upd u218 24 0) a g) H := hP
                      have hD : va_D A (mW K o r (upd u218 24 0) a g) := hD
                      refine k_gen (P := fun z => va_P D vwCl (mW K o r z a g) H ∧ va_D A (mW K o r z a g) ∧ (mI z a) ∧ (fE [22, 24] f z)) (upd u218 24 0) ⟨hP, hD, (mI_f hI (fI_st hI.1 24 kc_0 (by decide) (by decide))), (fE_f hE (by decide))⟩ (fun f_269 ef_269 hq => ?_)
                      obtain ⟨hP, hD, hI, hE⟩ := hq
                      refine lv_lconst (v := 1) hx hb dX12_termOf_118 (by decide) ?_
                      refine lv_lstore (lv' := [(5, .long 1), (4, .int 137), (2, .long y11), (0, .ref o), (1, .int lv)]) hx hb dX12_termOf_119 hl (by decide) rfl (fun ls hl => ?_)
                      refine lv_aload_n hx hb dX12_termOf_121 rfl (lv_at hl 3 rfl) ?_
                      refine lv_iload hx hb dX12_termOf_122 (lv_at hl 1 rfl) ?_
                      refine lv_bipush (v := 42) hx hb dX12_termOf_124 (by decide) ?_
                      refine kN.callS (As := [.int 42]) (rest := [.int 137, .ref o]) ⟨hx, hb, hml, hown, hg⟩ (m_sign l 42 (kb_w kc_42 (by decide) (by decide))) (va_cwS 1 hg (kgS wt6_220 wt6_221 wt1_14 wt6_222) rfl rfl rfl (by decide +kernel) ⟨by dsimp only [rmD]; omega, by dsimp only [rmD]; omega⟩) hP hS rfl hl.1 rfl (Nat.le_of_ble_eq_true rfl) dX12_termOf_126 ⟨Nat.le_refl _, Nat.le_refl _⟩ (fun v271 H locs hw270 hP hS => ?_)
                      refine k_top (z := 142) (Int32.toInt_inj.mp (hw270.2.trans (by decide +kernel))) ?_
                      refine lv_icmp_ne (tgt := 139) hx hb dX12_termOf_129 (by decide) (fun c273 => ?_) (fun c273 => ?_)
                      · refine lv_iload hx hb dX12_termOf_139 (lv_at hl 1 rfl) ?_
                        refine lv_bipush (v := 47) hx hb dX12_termOf_141 (by decide) ?_
                        refine kN.callS (As := [.int 47]) (rest := [.int 137, .ref o]) ⟨hx, hb, hml, hown, hg⟩ (m_sign l 47 (kb_w kc_47 (by decide) (by decide))) (va_cwS 1 hg (kgS wt6_220 wt6_221 wt1_14 wt6_222) rfl rfl rfl (by decide +kernel) ⟨by dsimp only [rmD]; omega, by dsimp only [rmD]; omega⟩) hP hS rfl hl.1 rfl (Nat.le_of_ble_eq_true rfl) dX12_termOf_143 ⟨Nat.le_refl _, Nat.le_refl _⟩ (fun v275 H locs hw274 hP hS => ?_)
                        refine k_top (z := 147) (Int32.toInt_inj.mp (hw274.2.trans (by decide +kernel))) ?_
                        refine lv_icmp_ne (tgt := 156) hx hb dX12_termOf_146 (by decide) (fun c277 => ?_) (fun c277 => ?_)
                        · refine lv_lload_n hx hb dX12_termOf_156 rfl (lv_at hl 2 rfl) ?_
                          refine lv_lload hx hb dX12_termOf_157 (lv_at hl 0 rfl) ?_
                          refine lv_lrem hx hb dX12_termOf_159 (by decide +kernel) ?_
                          refine lv_topl (fun t278 et278 => ?_)
                          refine lv_iload_n hx hb dX12_termOf_160 rfl (lv_at hl 4 rfl) ?_
                          refine kL.callV (As := [.long t278, .int lv]) (rest := []) ⟨hx, hb, hml, hown, hg⟩ (n_bounded l o r f_269 a g hI t278 lv (kb_w b268 (by decide) (by decide)) ) (cwV 2 hg (kgV wt7_74 wt7_76 wp5_14 wt1_14 wt7_77) rfl rfl rfl (by decide +kernel) ⟨by dsimp only [rmD]; omega, by dsimp only [rmD]; omega⟩) hK hP hD hS hA mIs [] rfl (wr := []) rfl rfl rfl (fun i h => by cases h) 0 12 rfl rfl rfl hl.1 rfl (Nat.le_of_ble_eq_true rfl) dX12_termOf_161 ⟨Nat.le_refl _, Nat.le_refl _⟩ (fun v280 u281 H locs hw279 hP hD hS => ?_)
                          have hP : va_P D vwCl (mW K o r u281 a g) H := hP
                          have hD : va_D A (mW K o r u281 a g) := hD
                          have hI : mI u281 a := hw279.2.1
                          have eE282 : fE [24] f_269 u281 := hw279.2.2.1
                          have hE : fE [22, 24] f u281 := fE_tr hE (fE_w (by decide) eE282)
                          obtain ⟨bq283, ebq283⟩ : ∃ z : Int32, z = u281 24 := ⟨_, rfl⟩
                          have b284 : kb 0 bq283 1 := kb_eq ebq283 (fI_at hI.1 24 (by decide) (by decide))
                          have hbd : bdR lv 0 t278.toInt bq283 v280.toInt := by have w1 := hw279.2.2.2; rw [(show f_269 24 = 0 from by rw [← ef_269]; rfl), ← ebq283] at w1; exact w1
                          refine lv_lstore_n (lv' := [(2, .long v280), (5, .long 1), (4, .int 137), (0, .ref o), (1, .int lv)]) hx hb dX12_termOf_164 rfl hl (by decide) rfl (fun ls hl => ?_)
                          refine lv_goto (tgt := 6) hx hb dX12_termOf_165 (by decide) ?_
                          exact ihlp13 (mm) (jnO (opC (T i7)) xv ww) u281 _ _ _ v280 (h6) hI hE (by rw [((eE282 22 (by decide)).trans ((show f_269 22 = u218 22 from by rw [← ef_269]; rfl).trans egv220.symm))]; exact hg221) (by show mRs lv cb (jnO (opC (T i7)) xv ww Ws) (u281 24) v280.toInt; rw [ebq283.symm, show opC (T i7) = 9 from (by rw [h1]; decide +kernel)]; exact (m_jd (op := 9) (z' := 1) hacc hr224 (Or.inl ⟨(show v217.toInt = 0 from by rw [h247]; decide +kernel), rfl, (by rw [if_pos ⟨c248, fun q => absurd (c267.symm.trans q) (by decide +kernel)⟩])⟩) (b01 blv) (b01 (kb_w b266 (by decide) (by decide))) (fun n => absurd (show v217.toInt = 0 from by rw [h247]; decide +kernel) n) (fun e => by show (if _ = 0 then none else _) = none; rw [if_pos e]) (fun p => by rw [(show t278.toInt = y11.toInt.tmod 1 from by rw [et278, l_rem (mRs_o hacc) (by rw [(by decide +kernel : (1 : Int64).toInt = 1)]; unfold oBd; omega), (by decide +kernel : (1 : Int64).toInt = 1)]), p]; exact Int.zero_tmod _) (fun p => by rw [(show t278.toInt = y11.toInt.tmod 1 from by rw [et278, l_rem (mRs_o hacc) (by rw [(by decide +kernel : (1 : Int64).toInt = 1)]; unfold oBd; omega), (by decide +kernel : (1 : Int64).toInt = 1)])]; exact l_modp p) hbd)) hP hD hS (lv_sub hl [0, 3, 4] rfl)
                        · exact kb_dj c277 kc_137 kc_147 (by decide)
                      · exact kb_dj c273 kc_137 kc_142 (by decide)
                    · have b285 : kb 1 lv 1 := kr_nel c267 blv kc_0 (by decide)
                      refine lv_iconst (v := 1) hx hb dX12_termOf_110 (by decide) ?_
                      refine lv_goto (tgt := 115) hx hb dX12_termOf_111 (by decide) ?_
                      refine va_put (D := D) (ci := 12) (v := .int 1) (ty := .boolean) (C := RX12) (T := TX12) (N := 48) hx hb hg inC12 tyX12 tyX12_ok nmX12 hown hK hP hD hS 0 rfl rfl 24 (by decide) (hg _ wt5_184) (fun _ h9 => h9) rfl (by decide +kernel) rfl rfl (Nat.le_of_ble_eq_true rfl) dX12_termOf_115 (fun H locs hP hD hS => ?_)
                      have hP : va_P D vwCl (mW K o r (upd u218 24 1) a g) H := hP
                      have hD : va_D A (mW K o r (upd u218 24 1) a g) := hD
                      refine k_gen (P := fun z => va_P D vwCl (mW K o r z a g) H ∧ va_D A (mW K o r z a g) ∧ (mI z a) ∧ (fE [22, 24] f z)) (upd u218 24 1) ⟨hP, hD, (mI_f hI (fI_st hI.1 24 kc_1 (by decide) (by decide))), (fE_f hE (by decide))⟩ (fun f_286 ef_286 hq => ?_)
                      obtain ⟨hP, hD, hI, hE⟩ := hq
                      refine lv_lconst (v := 1) hx hb dX12_termOf_118 (by decide) ?_
                      refine lv_lstore (lv' := [(5, .long 1), (4, .int 137), (2, .long y11), (0, .ref o), (1, .int lv)]) hx hb dX12_termOf_119 hl (by decide) rfl (fun ls hl => ?_)
                      refine lv_aload_n hx hb dX12_termOf_121 rfl (lv_at hl 3 rfl) ?_
                      refine lv_iload hx hb dX12_termOf_122 (lv_at hl 1 rfl) ?_
                      refine lv_bipush (v := 42) hx hb dX12_termOf_124 (by decide) ?_
                      refine kN.callS (As := [.int 42]) (rest := [.int 137, .ref o]) ⟨hx, hb, hml, hown, hg⟩ (m_sign l 42 (kb_w kc_42 (by decide) (by decide))) (va_cwS 1 hg (kgS wt6_220 wt6_221 wt1_14 wt6_222) rfl rfl rfl (by decide +kernel) ⟨by dsimp only [rmD]; omega, by dsimp only [rmD]; omega⟩) hP hS rfl hl.1 rfl (Nat.le_of_ble_eq_true rfl) dX12_termOf_126 ⟨Nat.le_refl _, Nat.le_refl _⟩ (fun v288 H locs hw287 hP hS => ?_)
                      refine k_top (z := 142) (Int32.toInt_inj.mp (hw287.2.trans (by decide +kernel))) ?_
                      refine lv_icmp_ne (tgt := 139) hx hb dX12_termOf_129 (by decide) (fun c290 => ?_) (fun c290 => ?_)
                      · refine lv_iload hx hb dX12_termOf_139 (lv_at hl 1 rfl) ?_
                        refine lv_bipush (v := 47) hx hb dX12_termOf_141 (by decide) ?_
                        refine kN.callS (As := [.int 47]) (rest := [.int 137, .ref o]) ⟨hx, hb, hml, hown, hg⟩ (m_sign l 47 (kb_w kc_47 (by decide) (by decide))) (va_cwS 1 hg (kgS wt6_220 wt6_221 wt1_14 wt6_222) rfl rfl rfl (by decide +kernel) ⟨by dsimp only [rmD]; omega, by dsimp only [rmD]; omega⟩) hP hS rfl hl.1 rfl (Nat.le_of_ble_eq_true rfl) dX12_termOf_143 ⟨Nat.le_refl _, Nat.le_refl _⟩ (fun v292 H locs hw291 hP hS => ?_)
                        refine k_top (z := 147) (Int32.toInt_inj.mp (hw291.2.trans (by decide +kernel))) ?_
                        refine lv_icmp_ne (tgt := 156) hx hb dX12_termOf_146 (by decide) (fun c294 => ?_) (fun c294 => ?_)
                        · refine lv_lload_n hx hb dX12_termOf_156 rfl (lv_at hl 2 rfl) ?_
                          refine lv_lload hx hb dX12_termOf_157 (lv_at hl 0 rfl) ?_
                          refine lv_lrem hx hb dX12_termOf_159 (by decide +kernel) ?_
                          refine lv_topl (fun t295 et295 => ?_)
                          refine lv_iload_n hx hb dX12_termOf_160 rfl (lv_at hl 4 rfl) ?_
                          refine kL.callV (As := [.long t295, .int lv]) (rest := []) ⟨hx, hb, hml, hown, hg⟩ (n_bounded l o r f_286 a g hI t295 lv (kb_w b285 (by decide) (by decide)) ) (cwV 2 hg (kgV wt7_74 wt7_76 wp5_14 wt1_14 wt7_77) rfl rfl rfl (by decide +kernel) ⟨by dsimp only [rmD]; omega, by dsimp only [rmD]; omega⟩) hK hP hD hS hA mIs [] rfl (wr := []) rfl rfl rfl (fun i h => by cases h) 0 12 rfl rfl rfl hl.1 rfl (Nat.le_of_ble_eq_true rfl) dX12_termOf_161 ⟨Nat.le_refl _, Nat.le_refl _⟩ (fun v297 u298 H locs hw296 hP hD hS => ?_)
                          have hP : va_P D vwCl (mW K o r u298 a g) H := hP
                          have hD : va_D A (mW K o r u298 a g) := hD
                          have hI : mI u298 a := hw296.2.1
                          have eE299 : fE [24] f_286 u298 := hw296.2.2.1
                          have hE : fE [22, 24] f u298 := fE_tr hE (fE_w (by decide) eE299)
                          obtain ⟨bq300, ebq300⟩ : ∃ z : Int32, z = u298 24 := ⟨_, rfl⟩
                          have b301 : kb 0 bq300 1 := kb_eq ebq300 (fI_at hI.1 24 (by decide) (by decide))
                          have hbd : bdR lv 1 t295.toInt bq300 v297.toInt := by have w1 := hw296.2.2.2; rw [(show f_286 24 = 1 from by rw [← ef_286]; rfl), ← ebq300] at w1; exact w1
                          refine lv_lstore_n (lv' := [(2, .long v297), (5, .long 1), (4, .int 137), (0, .ref o), (1, .int lv)]) hx hb dX12_termOf_164 rfl hl (by decide) rfl (fun ls hl => ?_)
                          refine lv_goto (tgt := 6) hx hb dX12_termOf_165 (by decide) ?_
                          exact ihlp13 (mm) (jnO (opC (T i7)) xv ww) u298 _ _ _ v297 (h6) hI hE (by rw [((eE299 22 (by decide)).trans ((show f_286 22 = u218 22 from by rw [← ef_286]; rfl).trans egv220.symm))]; exact hg221) (by show mRs lv cb (jnO (opC (T i7)) xv ww Ws) (u298 24) v297.toInt; rw [ebq300.symm, show opC (T i7) = 9 from (by rw [h1]; decide +kernel)]; exact (m_jd (op := 9) (z' := 1) hacc hr224 (Or.inl ⟨(show v217.toInt = 0 from by rw [h247]; decide +kernel), rfl, (by rw [if_neg (fun q => q.2 (kb_11 b285))])⟩) (b01 blv) (b01 (kb_w b266 (by decide) (by decide))) (fun n => absurd (show v217.toInt = 0 from by rw [h247]; decide +kernel) n) (fun e => by show (if _ = 0 then none else _) = none; rw [if_pos e]) (fun p => by rw [(show t295.toInt = y11.toInt.tmod 1 from by rw [et295, l_rem (mRs_o hacc) (by rw [(by decide +kernel : (1 : Int64).toInt = 1)]; unfold oBd; omega), (by decide +kernel : (1 : Int64).toInt = 1)]), p]; exact Int.zero_tmod _) (fun p => by rw [(show t295.toInt = y11.toInt.tmod 1 from by rw [et295, l_rem (mRs_o hacc) (by rw [(by decide +kernel : (1 : Int64).toInt = 1)]; unfold oBd; omega), (by decide +kernel : (1 : Int64).toInt = 1)])]; exact l_modp p) hbd)) hP hD hS (lv_sub hl [0, 3, 4] rfl)
                        · exact kb_dj c294 kc_137 kc_147 (by decide)
                      · exact kb_dj c290 kc_137 kc_142 (by decide)
  exact lp13 (n0) (m0) w0 u4 _ _ _ v3 (hn0) hI hE (by rw [egv6.symm]; exact hg7) (by show mRs lv cb (w0 Ws) (u4 24) _; rw [ebq8.symm]; exact hr10) hP hD hS (lv_sub hl [0, 1, 2] rfl)
set_option maxHeartbeats 4000000 in
set_option maxRecDepth 100000 in
theorem n_positiveOf (d : Nat) (ih : ∀ e, d = e + 1 → nTest e) (hsum : nSum d) (l : Launch) {D : va_G} {K : Nat → ClassId} (o : Nat) (r : Nat → Nat) (f : Nat → Int32) (a : Nat → Nat → Int32) (g : Nat → Int64) (hI : mI f a) (lv : Int32) (blv : kb 0 lv 1) (t i j : Nat) (ob : Bool) (T : Nat → Int32) (Ws : Nat → Int) (v_ : eV) (hp0 : eS f a t ob) (hp1 : (f 22).toInt = 400 * (t : Int) + (i : Int)) (hp2 : tQ (a 2) t T) (hp3 : wQ ob Ws f a) (hp4 : eG ob T d 10 i e1 j v_) : kI l yX12_positiveOf (Cond.code yX12_positiveOf cX12_positiveOf 7 (some .boolean) :: kG) (rmD (4 * d + 12) 0 0) D (tysK K) [.ref o, .int lv] (mW K o r f a g) (fun v (u : Nat → Int32) => kb 0 v 1 ∧ mI u a ∧ fE [22, 24] f u ∧ (u 22).toInt = 400 * (t : Int) + (j : Int) ∧ mTv lv (f 24) (v_ Ws) (u 24) v) (fun u => mW K o r u a g) 0 0 := by
  refine kI.of (cc := cX12_positiveOf) (maxL := 7) (ret := (some .boolean)) (by decide) rfl (Nat.le_of_ble_eq_true rfl) ?_
  intro p e s m below meth c A hx hb hr hml hown hts hlocks hnm hK hP hD hS hA ls hl
  have hE : fE [22, 24] f f := fE_rf
  have hg : ∀ w ∈ kG, w.before _ s = true := fun w h => hts w (List.mem_cons_of_mem _ h)
  have hown : s.vm.findClass RX12 = some m.cls := hown
  have hl : lv_has ls 7 [(0, .ref o), (1, .int lv)] := hl
  obtain ⟨c22, ec22⟩ : ∃ z : Int32, z = f 22 := ⟨_, rfl⟩
  have hg0 : c22.toInt = 400 * (t : Int) + (i : Int) := by rw [ec22]; exact hp1
  obtain ⟨cb, ecb⟩ : ∃ z : Int32, z = f 24 := ⟨_, rfl⟩
  have b1 : kb 0 cb 1 := kb_eq ecb (fI_at hI.1 24 (by decide) (by decide))
  rcases eG_out hp4 with ⟨h1, ee, mm, hd, h2, h3, hj⟩ | ⟨h1, mm, ww, zz, h2, h3 | h3 | h3, h4, hv⟩
  · have b2 : kb 0 c22 2799 := kb_go (eS_fE hE hp0 (by decide) (by decide)) (mC_lt (eS_fE hE hp0 (by decide) (by decide)) (ne_0 (tq_y hp2 (x := 140) (y := 3040) (by decide +kernel) (by decide +kernel) h1) (by decide +kernel))) hg0
    refine lv_aload_n hx hb dX12_positiveOf_0 rfl (lv_at hl 0 rfl) ?_
    refine lv_bipush (v := 40) hx hb dX12_positiveOf_1 (by decide) ?_
    refine kN.callS (As := [.int 40]) (rest := [.ref o]) ⟨hx, hb, hml, hown, hg⟩ (m_sign l 40 (kb_w kc_40 (by decide) (by decide))) (va_cwS 1 hg (kgS wt6_220 wt6_221 wt1_14 wt6_222) rfl rfl rfl (by decide +kernel) ⟨by dsimp only [rmD]; omega, by dsimp only [rmD]; omega⟩) hP hS rfl hl.1 rfl (Nat.le_of_ble_eq_true rfl) dX12_positiveOf_3 ⟨Nat.le_refl _, Nat.le_refl _⟩ (fun v4 H locs hw3 hP hS => ?_)
    refine k_top (z := 140) (Int32.toInt_inj.mp (hw3.2.trans (by decide +kernel))) ?_
    refine kI.callV (As := [.int 140]) (rest := []) ⟨hx, hb, hml, hown, hg⟩ (m_passes0 l o r f a g hI 140 (kb_w kc_140 (by decide) (by decide)) t (i) ob (eS_fE hE hp0 (by decide) (by decide)) (by rw [ec22.symm]; exact hg0)) (cwV 1 hg (kgV wt7_63 wt7_65 wp5_12 wt1_14 wt7_66) rfl rfl rfl (by decide +kernel) ⟨by dsimp only [rmD]; omega, by dsimp only [rmD]; omega⟩) hK hP hD hS hA mIs [] rfl (wr := []) rfl rfl rfl (fun i h => by cases h) 0 12 rfl rfl rfl hl.1 rfl (Nat.le_of_ble_eq_true rfl) dX12_positiveOf_6 ⟨Nat.le_refl _, Nat.le_refl _⟩ (fun v7 u8 H locs hw6 hP hD hS => ?_)
    have hP : va_P D vwCl (mW K o r u8 a g) H := hP
    have hD : va_D A (mW K o r u8 a g) := hD
    have hI : mI u8 a := hw6.2.1
    have eE9 : fE [22] f u8 := hw6.2.2.1
    have hE : fE [22, 24] f u8 := fE_tr hE (fE_w (by decide) eE9)
    have hz10 := pass_y hw6.2.2.2 (tq_y hp2 (x := 140) (y := 3040) (by decide +kernel) (by decide +kernel) h1)
    refine k_top (z := 1) hz10.1 ?_
    obtain ⟨gv11, egv11⟩ : ∃ z : Int32, z = u8 22 := ⟨_, rfl⟩
    have hg12 : gv11.toInt = 400 * (t : Int) + ((i + 1 : Nat) : Int) := by rw [egv11]; exact hz10.2
    refine lv_if_eq (tgt := 30) hx hb dX12_positiveOf_9 (by decide) (fun c13 => ?_) (fun c13 => ?_)
    · exact kb_dj c13 kc_1 kc_0 (by decide)
    · refine lv_aload_n hx hb dX12_positiveOf_12 rfl (lv_at hl 0 rfl) ?_
      refine lv_iload_n hx hb dX12_positiveOf_13 rfl (lv_at hl 1 rfl) ?_
      refine kI.callV (As := [.int lv]) (rest := []) ⟨hx, hb, hml, hown, hg⟩ ((ih ee hd) l o r u8 a g hI lv blv t (i + 1) (mm) ob T Ws v_ (eS_fE hE hp0 (by decide) (by decide)) (by rw [egv11.symm]; exact hg12) hp2 (wQ_fE hE hp3 (by decide) (by decide)) h2) (cwV 1 hg (kgV wt7_80 wt7_82 wp5_15 wt1_14 wt7_83) rfl rfl rfl (by decide +kernel) ⟨by dsimp only [rmD]; omega, by dsimp only [rmD]; omega⟩) hK hP hD hS hA mIs [] rfl (wr := []) rfl rfl rfl (fun i h => by cases h) 0 12 rfl rfl rfl hl.1 rfl (Nat.le_of_ble_eq_true rfl) dX12_positiveOf_14 ⟨Nat.le_refl _, Nat.le_refl _⟩ (fun v15 u16 H locs hw14 hP hD hS => ?_)
      have hP : va_P D vwCl (mW K o r u16 a g) H := hP
      have hD : va_D A (mW K o r u16 a g) := hD
      have hI : mI u16 a := hw14.2.1
      have eE17 : fE [22, 24] u8 u16 := hw14.2.2.1
      have hE : fE [22, 24] f u16 := fE_tr hE eE17
      obtain ⟨gv18, egv18⟩ : ∃ z : Int32, z = u16 22 := ⟨_, rfl⟩
      have hg19 : gv18.toInt = 400 * (t : Int) + ((mm : Nat) : Int) := by rw [egv18]; exact hw14.2.2.2.1
      have b20 : kb 0 gv18 2799 := kb_go (eS_fE hE hp0 (by decide) (by decide)) (mC_lt (eS_fE hE hp0 (by decide) (by decide)) (ne_0 (tq_y hp2 (x := 141) (y := 3041) (by decide +kernel) (by decide +kernel) h3) (by decide +kernel))) hg19
      obtain ⟨bq21, ebq21⟩ : ∃ z : Int32, z = u16 24 := ⟨_, rfl⟩
      have b22 : kb 0 bq21 1 := kb_eq ebq21 (fI_at hI.1 24 (by decide) (by decide))
      have hr23 : mTv lv cb (v_ Ws) bq21 v15 := by have w1 := hw14.2.2.2.2; rw [((eE9 24 (by decide)).trans ecb.symm), ← ebq21] at w1; exact w1
      refine lv_istore_n (lv' := [(2, .int v15), (0, .ref o), (1, .int lv)]) hx hb dX12_positiveOf_17 rfl hl (by decide) rfl (fun ls hl => ?_)
      refine lv_aload_n hx hb dX12_positiveOf_18 rfl (lv_at hl 1 rfl) ?_
      refine lv_dup hx hb dX12_positiveOf_19 rfl ?_
      refine va_get (D := D) (ci := 12) (v := .int (u16 22)) (C := RX12) (T := TX12) (N := 48) hx hb hg inC12 hown hK hP 0 rfl rfl 22 (by decide) (hg _ wt5_182) (fun _ h9 => h9) rfl dX12_positiveOf_20 ?_
      refine k_top (z := gv18) egv18.symm ?_
      refine lv_iconst (v := 1) hx hb dX12_positiveOf_23 (by decide) ?_
      refine lv_iadd hx hb dX12_positiveOf_24 ?_
      refine lv_topi (fun t24 et24 => ?_)
      have b25 : kb 1 t24 2800 := kb_eq et24 (kb_add b20 kc_1 (by decide) (by decide))
      have qt24 : t24.toInt = gv18.toInt + 1 := by rw [et24]; exact kt_addc b20 kc_1 (by decide) (by decide)
      have hg26 : t24.toInt = 400 * (t : Int) + ((mm + 1 : Nat) : Int) := by rw [qt24, hg19]; omega
      refine va_put (D := D) (ci := 12) (v := .int t24) (ty := .int) (C := RX12) (T := TX12) (N := 48) hx hb hg inC12 tyX12 tyX12_ok nmX12 hown hK hP hD hS 0 rfl rfl 22 (by decide) (hg _ wt5_182) (fun _ h9 => h9) rfl (by decide +kernel) rfl rfl (Nat.le_of_ble_eq_true rfl) dX12_positiveOf_25 (fun H locs hP hD hS => ?_)
      have hP : va_P D vwCl (mW K o r (upd u16 22 t24) a g) H := hP
      have hD : va_D A (mW K o r (upd u16 22 t24) a g) := hD
      refine k_gen (P := fun z => va_P D vwCl (mW K o r z a g) H ∧ va_D A (mW K o r z a g) ∧ (mI z a) ∧ (fE [22, 24] f z)) (upd u16 22 t24) ⟨hP, hD, (mI_f hI (fI_st hI.1 22 (kb_any _) (by decide) (by decide))), (fE_f hE (by decide))⟩ (fun f_27 ef_27 hq => ?_)
      obtain ⟨hP, hD, hI, hE⟩ := hq
      refine lv_iload_n hx hb dX12_positiveOf_28 rfl (lv_at hl 0 rfl) ?_
      exact kI_ret (v := v15) hx hb hr hlocks (kb_bo hw14.1) hK hS dX12_positiveOf_29 f_27 hP hD ⟨hw14.1, hI, hE, (by rw [(show f_27 22 = t24 from by rw [← ef_27]; rfl), hg26]; omega), (by show mTv lv (f 24) (v_ Ws) (f_27 24) v15; rw [((show f_27 24 = u16 24 from by rw [← ef_27]; rfl).trans ebq21.symm), ← ecb]; exact hr23)⟩
  · refine lv_aload_n hx hb dX12_positiveOf_0 rfl (lv_at hl 0 rfl) ?_
    refine lv_bipush (v := 40) hx hb dX12_positiveOf_1 (by decide) ?_
    refine kN.callS (As := [.int 40]) (rest := [.ref o]) ⟨hx, hb, hml, hown, hg⟩ (m_sign l 40 (kb_w kc_40 (by decide) (by decide))) (va_cwS 1 hg (kgS wt6_220 wt6_221 wt1_14 wt6_222) rfl rfl rfl (by decide +kernel) ⟨by dsimp only [rmD]; omega, by dsimp only [rmD]; omega⟩) hP hS rfl hl.1 rfl (Nat.le_of_ble_eq_true rfl) dX12_positiveOf_3 ⟨Nat.le_refl _, Nat.le_refl _⟩ (fun v29 H locs hw28 hP hS => ?_)
    refine k_top (z := 140) (Int32.toInt_inj.mp (hw28.2.trans (by decide +kernel))) ?_
    refine kI.callV (As := [.int 140]) (rest := []) ⟨hx, hb, hml, hown, hg⟩ (m_passes0 l o r f a g hI 140 (kb_w kc_140 (by decide) (by decide)) t (i) ob (eS_fE hE hp0 (by decide) (by decide)) (by rw [ec22.symm]; exact hg0)) (cwV 1 hg (kgV wt7_63 wt7_65 wp5_12 wt1_14 wt7_66) rfl rfl rfl (by decide +kernel) ⟨by dsimp only [rmD]; omega, by dsimp only [rmD]; omega⟩) hK hP hD hS hA mIs [] rfl (wr := []) rfl rfl rfl (fun i h => by cases h) 0 12 rfl rfl rfl hl.1 rfl (Nat.le_of_ble_eq_true rfl) dX12_positiveOf_6 ⟨Nat.le_refl _, Nat.le_refl _⟩ (fun v32 u33 H locs hw31 hP hD hS => ?_)
    have hP : va_P D vwCl (mW K o r u33 a g) H := hP
    have hD : va_D A (mW K o r u33 a g) := hD
    have hI : mI u33 a := hw31.2.1
    have eE34 : fE [22] f u33 := hw31.2.2.1
    have hE : fE [22, 24] f u33 := fE_tr hE (fE_w (by decide) eE34)
    have hz35 := pass_n hw31.2.2.2 (tq_n hp2 (x := 140) (y := 3040) (by decide +kernel) (by decide +kernel) h1)
    refine k_top (z := 0) hz35.1 ?_
    obtain ⟨gv36, egv36⟩ : ∃ z : Int32, z = u33 22 := ⟨_, rfl⟩
    have hg37 : gv36.toInt = 400 * (t : Int) + ((i : Nat) : Int) := by rw [egv36]; exact hz35.2
    refine lv_if_eq (tgt := 30) hx hb dX12_positiveOf_9 (by decide) (fun c38 => ?_) (fun c38 => ?_)
    · refine lv_aload_n hx hb dX12_positiveOf_30 rfl (lv_at hl 0 rfl) ?_
      refine lv_iload_n hx hb dX12_positiveOf_31 rfl (lv_at hl 1 rfl) ?_
      refine kL.callV (As := [.int lv]) (rest := []) ⟨hx, hb, hml, hown, hg⟩ (hsum l o r u33 a g hI lv blv t (i) (mm) ob T Ws ww (eS_fE hE hp0 (by decide) (by decide)) (by rw [egv36.symm]; exact hg37) hp2 (wQ_fE hE hp3 (by decide) (by decide)) h2) (cwV 1 hg (kgV wt7_51 wt7_53 wp5_9 wt1_14 wt7_54) rfl rfl rfl (by decide +kernel) ⟨by dsimp only [rmD]; omega, by dsimp only [rmD]; omega⟩) hK hP hD hS hA mIs [] rfl (wr := []) rfl rfl rfl (fun i h => by cases h) 0 12 rfl rfl rfl hl.1 rfl (Nat.le_of_ble_eq_true rfl) dX12_positiveOf_32 ⟨Nat.le_refl _, Nat.le_refl _⟩ (fun v40 u41 H locs hw39 hP hD hS => ?_)
      have hP : va_P D vwCl (mW K o r u41 a g) H := hP
      have hD : va_D A (mW K o r u41 a g) := hD
      have hI : mI u41 a := hw39.2.1
      have eE42 : fE [22, 24] u33 u41 := hw39.2.2.1
      have hE : fE [22, 24] f u41 := fE_tr hE eE42
      obtain ⟨gv43, egv43⟩ : ∃ z : Int32, z = u41 22 := ⟨_, rfl⟩
      have hg44 : gv43.toInt = 400 * (t : Int) + ((mm : Nat) : Int) := by rw [egv43]; exact hw39.2.2.2.1
      have b45 : kb 0 gv43 2799 := kb_go (eS_fE hE hp0 (by decide) (by decide)) (mC_lt (eS_fE hE hp0 (by decide) (by decide)) (ne_0 (tq_y hp2 (x := 160) (y := 3060) (by decide +kernel) (by decide +kernel) h3) (by decide +kernel))) hg44
      obtain ⟨bq46, ebq46⟩ : ∃ z : Int32, z = u41 24 := ⟨_, rfl⟩
      have b47 : kb 0 bq46 1 := kb_eq ebq46 (fI_at hI.1 24 (by decide) (by decide))
      have hr48 : mRs lv cb (ww Ws) bq46 v40.toInt := by have w1 := hw39.2.2.2.2; rw [((eE34 24 (by decide)).trans ecb.symm), ← ebq46] at w1; exact w1
      refine lv_lstore_n (lv' := [(2, .long v40), (0, .ref o), (1, .int lv)]) hx hb dX12_positiveOf_35 rfl hl (by decide) rfl (fun ls hl => ?_)
      refine lv_aload_n hx hb dX12_positiveOf_36 rfl (lv_at hl 1 rfl) ?_
      refine lv_aload_n hx hb dX12_positiveOf_37 rfl (lv_at hl 1 rfl) ?_
      refine va_get (D := D) (ci := 12) (v := .int (u41 22)) (C := RX12) (T := TX12) (N := 48) hx hb hg inC12 hown hK hP 0 rfl rfl 22 (by decide) (hg _ wt5_182) (fun _ h9 => h9) rfl dX12_positiveOf_38 ?_
      refine k_top (z := gv43) egv43.symm ?_
      refine kI.callV (As := [.int gv43]) (rest := []) ⟨hx, hb, hml, hown, hg⟩ (m_codeAt l o r u41 a g hI gv43  t (mm) ob (eS_fE hE hp0 (by decide) (by decide)) hg44) (cwV 1 hg (kgV wt7_47 wt7_49 wp5_8 wt1_14 wt7_50) rfl rfl rfl (by decide +kernel) ⟨by dsimp only [rmD]; omega, by dsimp only [rmD]; omega⟩) hK hP hD hS hA mIs [] rfl (wr := []) rfl rfl rfl (fun i h => by cases h) 0 12 rfl rfl rfl hl.1 rfl (Nat.le_of_ble_eq_true rfl) dX12_positiveOf_41 ⟨Nat.le_refl _, Nat.le_refl _⟩ (fun v50 u51 H locs hw49 hP hD hS => ?_)
      have hP : va_P D vwCl (mW K o r u41 a g) H := hP
      have hD : va_D A (mW K o r u41 a g) := hD
      refine k_top (z := 160) (hw49.2.trans (tq_y hp2 (x := 160) (y := 3060) (by decide +kernel) (by decide +kernel) h3)) ?_
      refine lv_istore (lv' := [(4, .int 160), (2, .long v40), (0, .ref o), (1, .int lv)]) hx hb dX12_positiveOf_44 hl (by decide) rfl (fun ls hl => ?_)
      refine lv_aload_n hx hb dX12_positiveOf_46 rfl (lv_at hl 2 rfl) ?_
      refine lv_dup hx hb dX12_positiveOf_47 rfl ?_
      refine va_get (D := D) (ci := 12) (v := .int (u41 22)) (C := RX12) (T := TX12) (N := 48) hx hb hg inC12 hown hK hP 0 rfl rfl 22 (by decide) (hg _ wt5_182) (fun _ h9 => h9) rfl dX12_positiveOf_48 ?_
      refine k_top (z := gv43) egv43.symm ?_
      refine lv_iconst (v := 1) hx hb dX12_positiveOf_51 (by decide) ?_
      refine lv_iadd hx hb dX12_positiveOf_52 ?_
      refine lv_topi (fun t52 et52 => ?_)
      have b53 : kb 1 t52 2800 := kb_eq et52 (kb_add b45 kc_1 (by decide) (by decide))
      have qt52 : t52.toInt = gv43.toInt + 1 := by rw [et52]; exact kt_addc b45 kc_1 (by decide) (by decide)
      have hg54 : t52.toInt = 400 * (t : Int) + ((mm + 1 : Nat) : Int) := by rw [qt52, hg44]; omega
      refine va_put (D := D) (ci := 12) (v := .int t52) (ty := .int) (C := RX12) (T := TX12) (N := 48) hx hb hg inC12 tyX12 tyX12_ok nmX12 hown hK hP hD hS 0 rfl rfl 22 (by decide) (hg _ wt5_182) (fun _ h9 => h9) rfl (by decide +kernel) rfl rfl (Nat.le_of_ble_eq_true rfl) dX12_positiveOf_53 (fun H locs hP hD hS => ?_)
      have hP : va_P D vwCl (mW K o r (upd u41 22 t52) a g) H := hP
      have hD : va_D A (mW K o r (upd u41 22 t52) a g) := hD
      refine k_gen (P := fun z => va_P D vwCl (mW K o r z a g) H ∧ va_D A (mW K o r z a g) ∧ (mI z a) ∧ (fE [22, 24] f z)) (upd u41 22 t52) ⟨hP, hD, (mI_f hI (fI_st hI.1 22 (kb_any _) (by decide) (by decide))), (fE_f hE (by decide))⟩ (fun f_55 ef_55 hq => ?_)
      obtain ⟨hP, hD, hI, hE⟩ := hq
      refine lv_aload_n hx hb dX12_positiveOf_56 rfl (lv_at hl 2 rfl) ?_
      refine lv_iload_n hx hb dX12_positiveOf_57 rfl (lv_at hl 3 rfl) ?_
      refine kL.callV (As := [.int lv]) (rest := []) ⟨hx, hb, hml, hown, hg⟩ (hsum l o r f_55 a g hI lv blv t (mm + 1) (j) ob T Ws zz (eS_fE hE hp0 (by decide) (by decide)) (by rw [(show f_55 22 = t52 from by rw [← ef_55]; rfl)]; exact hg54) hp2 (wQ_fE hE hp3 (by decide) (by decide)) h4) (cwV 1 hg (kgV wt7_51 wt7_53 wp5_9 wt1_14 wt7_54) rfl rfl rfl (by decide +kernel) ⟨by dsimp only [rmD]; omega, by dsimp only [rmD]; omega⟩) hK hP hD hS hA mIs [] rfl (wr := []) rfl rfl rfl (fun i h => by cases h) 0 12 rfl rfl rfl hl.1 rfl (Nat.le_of_ble_eq_true rfl) dX12_positiveOf_58 ⟨Nat.le_refl _, Nat.le_refl _⟩ (fun v57 u58 H locs hw56 hP hD hS => ?_)
      have hP : va_P D vwCl (mW K o r u58 a g) H := hP
      have hD : va_D A (mW K o r u58 a g) := hD
      have hI : mI u58 a := hw56.2.1
      have eE59 : fE [22, 24] f_55 u58 := hw56.2.2.1
      have hE : fE [22, 24] f u58 := fE_tr hE eE59
      obtain ⟨gv60, egv60⟩ : ∃ z : Int32, z = u58 22 := ⟨_, rfl⟩
      have hg61 : gv60.toInt = 400 * (t : Int) + ((j : Nat) : Int) := by rw [egv60]; exact hw56.2.2.2.1
      obtain ⟨bq62, ebq62⟩ : ∃ z : Int32, z = u58 24 := ⟨_, rfl⟩
      have b63 : kb 0 bq62 1 := kb_eq ebq62 (fI_at hI.1 24 (by decide) (by decide))
      have hr64 : mRs lv bq46 (zz Ws) bq62 v57.toInt := by have w1 := hw56.2.2.2.2; rw [((show f_55 24 = u41 24 from by rw [← ef_55]; rfl).trans ebq46.symm), ← ebq62] at w1; exact w1
      refine lv_lstore (lv' := [(5, .long v57), (4, .int 160), (2, .long v40), (0, .ref o), (1, .int lv)]) hx hb dX12_positiveOf_61 hl (by decide) rfl (fun ls hl => ?_)
      refine lv_iload_n hx hb dX12_positiveOf_63 rfl (lv_at hl 4 rfl) ?_
      refine lv_if_eq (tgt := 125) hx hb dX12_positiveOf_64 (by decide) (fun c65 => ?_) (fun c65 => ?_)
      · have b66 : kb 0 lv 0 := kb_eq c65 kc_0
        refine lv_iconst (v := 0) hx hb dX12_positiveOf_125 (by decide) ?_
        exact kI_ret (v := 0) hx hb hr hlocks (by decide +kernel) hK hS dX12_positiveOf_126 u58 hP hD ⟨(kb_w kc_0 (by decide) (by decide)), hI, hE, (by rw [egv60.symm]; exact hg61), (by show mTv lv (f 24) (v_ Ws) (u58 24) 0; rw [ebq62.symm, ← ecb]; exact (by rw [hv, show jnO (opC (T mm)) ww zz Ws = ((ww Ws).bind fun p => (zz Ws).bind fun q => jnV (opC (T mm)) p q) from rfl, show opC (T mm) = 10 from (by rw [h3]; decide +kernel)]; exact m_cmp hr48 hr64 (fun l _ => absurd (c65.symm.trans l) (by decide +kernel))))⟩
      · have b67 : kb 1 lv 1 := kr_nel c65 blv kc_0 (by decide)
        refine lv_aload_n hx hb dX12_positiveOf_67 rfl (lv_at hl 3 rfl) ?_
        refine va_get (D := D) (ci := 12) (v := .int (u58 24)) (C := RX12) (T := TX12) (N := 48) hx hb hg inC12 hown hK hP 0 rfl rfl 24 (by decide) (hg _ wt5_184) (fun _ h9 => h9) rfl dX12_positiveOf_68 ?_
        refine k_top (z := bq62) ebq62.symm ?_
        refine lv_if_ne (tgt := 125) hx hb dX12_positiveOf_71 (by decide) (fun c68 => ?_) (fun c68 => ?_)
        · have b69 : kb 1 bq62 1 := kr_nel c68 b63 kc_0 (by decide)
          refine lv_iconst (v := 0) hx hb dX12_positiveOf_125 (by decide) ?_
          exact kI_ret (v := 0) hx hb hr hlocks (by decide +kernel) hK hS dX12_positiveOf_126 u58 hP hD ⟨(kb_w kc_0 (by decide) (by decide)), hI, hE, (by rw [egv60.symm]; exact hg61), (by show mTv lv (f 24) (v_ Ws) (u58 24) 0; rw [ebq62.symm, ← ecb]; exact (by rw [hv, show jnO (opC (T mm)) ww zz Ws = ((ww Ws).bind fun p => (zz Ws).bind fun q => jnV (opC (T mm)) p q) from rfl, show opC (T mm) = 10 from (by rw [h3]; decide +kernel)]; exact m_cmp hr48 hr64 (fun _ b => absurd b c68)))⟩
        · have b70 : kb 0 bq62 0 := kb_eq c68 kc_0
          refine lv_iload hx hb dX12_positiveOf_74 (lv_at hl 1 rfl) ?_
          refine lv_bipush (v := 60) hx hb dX12_positiveOf_76 (by decide) ?_
          refine kN.callS (As := [.int 60]) (rest := [.int 160]) ⟨hx, hb, hml, hown, hg⟩ (m_sign l 60 (kb_w kc_60 (by decide) (by decide))) (va_cwS 1 hg (kgS wt6_220 wt6_221 wt1_14 wt6_222) rfl rfl rfl (by decide +kernel) ⟨by dsimp only [rmD]; omega, by dsimp only [rmD]; omega⟩) hP hS rfl hl.1 rfl (Nat.le_of_ble_eq_true rfl) dX12_positiveOf_78 ⟨Nat.le_refl _, Nat.le_refl _⟩ (fun v72 H locs hw71 hP hS => ?_)
          refine k_top (z := 160) (Int32.toInt_inj.mp (hw71.2.trans (by decide +kernel))) ?_
          refine lv_icmp_ne (tgt := 94) hx hb dX12_positiveOf_81 (by decide) (fun c74 => ?_) (fun c74 => ?_)
          · exact kb_nsame c74 kc_160 kc_160
          · refine lv_lload_n hx hb dX12_positiveOf_84 rfl (lv_at hl 2 rfl) ?_
            refine lv_lload hx hb dX12_positiveOf_85 (lv_at hl 0 rfl) ?_
            refine W.lcmp hx hb dX12_positiveOf_87 ?_
            refine lv_topi (fun t75 et75 => ?_)
            refine lv_if_ge (tgt := 125) hx hb dX12_positiveOf_88 (by decide) (fun c76 => ?_) (fun c76 => ?_)
            · have h77 := klc_ge (et75 ▸ c76)
              refine lv_iconst (v := 0) hx hb dX12_positiveOf_125 (by decide) ?_
              exact kI_ret (v := 0) hx hb hr hlocks (by decide +kernel) hK hS dX12_positiveOf_126 u58 hP hD ⟨(kb_w kc_0 (by decide) (by decide)), hI, hE, (by rw [egv60.symm]; exact hg61), (by show mTv lv (f 24) (v_ Ws) (u58 24) 0; rw [ebq62.symm, ← ecb]; exact (by rw [hv, show jnO (opC (T mm)) ww zz Ws = ((ww Ws).bind fun p => (zz Ws).bind fun q => jnV (opC (T mm)) p q) from rfl, show opC (T mm) = 10 from (by rw [h3]; decide +kernel)]; exact m_cmp hr48 hr64 (fun _ _ => by show some (if _ then (1 : Int) else 0) = some _; rw [if_neg (fun q => absurd h77 (Int.not_le.mpr q))]; decide +kernel)))⟩
            · have h78 := klc_nge (et75 ▸ c76)
              have b79 : kbl (-9223372036854775808) v40 9223372036854775806 := klr_lt1 h78 (kbl_any v40) (kbl_any v57) (by decide)
              have b80 : kbl (-9223372036854775807) v57 9223372036854775807 := klr_lt2 h78 (kbl_any v40) (kbl_any v57) (by decide)
              refine lv_goto (tgt := 121) hx hb dX12_positiveOf_91 (by decide) ?_
              refine lv_iconst (v := 1) hx hb dX12_positiveOf_121 (by decide) ?_
              refine lv_goto (tgt := 126) hx hb dX12_positiveOf_122 (by decide) ?_
              exact kI_ret (v := 1) hx hb hr hlocks (by decide +kernel) hK hS dX12_positiveOf_126 u58 hP hD ⟨(kb_w kc_1 (by decide) (by decide)), hI, hE, (by rw [egv60.symm]; exact hg61), (by show mTv lv (f 24) (v_ Ws) (u58 24) 1; rw [ebq62.symm, ← ecb]; exact (by rw [hv, show jnO (opC (T mm)) ww zz Ws = ((ww Ws).bind fun p => (zz Ws).bind fun q => jnV (opC (T mm)) p q) from rfl, show opC (T mm) = 10 from (by rw [h3]; decide +kernel)]; exact m_cmp hr48 hr64 (fun _ _ => by show some (if _ then (1 : Int) else 0) = some _; rw [if_pos h78]; decide +kernel)))⟩
    · exact kb_nsame c38 kc_0 kc_0
  · refine lv_aload_n hx hb dX12_positiveOf_0 rfl (lv_at hl 0 rfl) ?_
    refine lv_bipush (v := 40) hx hb dX12_positiveOf_1 (by decide) ?_
    refine kN.callS (As := [.int 40]) (rest := [.ref o]) ⟨hx, hb, hml, hown, hg⟩ (m_sign l 40 (kb_w kc_40 (by decide) (by decide))) (va_cwS 1 hg (kgS wt6_220 wt6_221 wt1_14 wt6_222) rfl rfl rfl (by decide +kernel) ⟨by dsimp only [rmD]; omega, by dsimp only [rmD]; omega⟩) hP hS rfl hl.1 rfl (Nat.le_of_ble_eq_true rfl) dX12_positiveOf_3 ⟨Nat.le_refl _, Nat.le_refl _⟩ (fun v82 H locs hw81 hP hS => ?_)
    refine k_top (z := 140) (Int32.toInt_inj.mp (hw81.2.trans (by decide +kernel))) ?_
    refine kI.callV (As := [.int 140]) (rest := []) ⟨hx, hb, hml, hown, hg⟩ (m_passes0 l o r f a g hI 140 (kb_w kc_140 (by decide) (by decide)) t (i) ob (eS_fE hE hp0 (by decide) (by decide)) (by rw [ec22.symm]; exact hg0)) (cwV 1 hg (kgV wt7_63 wt7_65 wp5_12 wt1_14 wt7_66) rfl rfl rfl (by decide +kernel) ⟨by dsimp only [rmD]; omega, by dsimp only [rmD]; omega⟩) hK hP hD hS hA mIs [] rfl (wr := []) rfl rfl rfl (fun i h => by cases h) 0 12 rfl rfl rfl hl.1 rfl (Nat.le_of_ble_eq_true rfl) dX12_positiveOf_6 ⟨Nat.le_refl _, Nat.le_refl _⟩ (fun v85 u86 H locs hw84 hP hD hS => ?_)
    have hP : va_P D vwCl (mW K o r u86 a g) H := hP
    have hD : va_D A (mW K o r u86 a g) := hD
    have hI : mI u86 a := hw84.2.1
    have eE87 : fE [22] f u86 := hw84.2.2.1
    have hE : fE [22, 24] f u86 := fE_tr hE (fE_w (by decide) eE87)
    have hz88 := pass_n hw84.2.2.2 (tq_n hp2 (x := 140) (y := 3040) (by decide +kernel) (by decide +kernel) h1)
    refine k_top (z := 0) hz88.1 ?_
    obtain ⟨gv89, egv89⟩ : ∃ z : Int32, z = u86 22 := ⟨_, rfl⟩
    have hg90 : gv89.toInt = 400 * (t : Int) + ((i : Nat) : Int) := by rw [egv89]; exact hz88.2
    refine lv_if_eq (tgt := 30) hx hb dX12_positiveOf_9 (by decide) (fun c91 => ?_) (fun c91 => ?_)
    · refine lv_aload_n hx hb dX12_positiveOf_30 rfl (lv_at hl 0 rfl) ?_
      refine lv_iload_n hx hb dX12_positiveOf_31 rfl (lv_at hl 1 rfl) ?_
      refine kL.callV (As := [.int lv]) (rest := []) ⟨hx, hb, hml, hown, hg⟩ (hsum l o r u86 a g hI lv blv t (i) (mm) ob T Ws ww (eS_fE hE hp0 (by decide) (by decide)) (by rw [egv89.symm]; exact hg90) hp2 (wQ_fE hE hp3 (by decide) (by decide)) h2) (cwV 1 hg (kgV wt7_51 wt7_53 wp5_9 wt1_14 wt7_54) rfl rfl rfl (by decide +kernel) ⟨by dsimp only [rmD]; omega, by dsimp only [rmD]; omega⟩) hK hP hD hS hA mIs [] rfl (wr := []) rfl rfl rfl (fun i h => by cases h) 0 12 rfl rfl rfl hl.1 rfl (Nat.le_of_ble_eq_true rfl) dX12_positiveOf_32 ⟨Nat.le_refl _, Nat.le_refl _⟩ (fun v93 u94 H locs hw92 hP hD hS => ?_)
      have hP : va_P D vwCl (mW K o r u94 a g) H := hP
      have hD : va_D A (mW K o r u94 a g) := hD
      have hI : mI u94 a := hw92.2.1
      have eE95 : fE [22, 24] u86 u94 := hw92.2.2.1
      have hE : fE [22, 24] f u94 := fE_tr hE eE95
      obtain ⟨gv96, egv96⟩ : ∃ z : Int32, z = u94 22 := ⟨_, rfl⟩
      have hg97 : gv96.toInt = 400 * (t : Int) + ((mm : Nat) : Int) := by rw [egv96]; exact hw92.2.2.2.1
      have b98 : kb 0 gv96 2799 := kb_go (eS_fE hE hp0 (by decide) (by decide)) (mC_lt (eS_fE hE hp0 (by decide) (by decide)) (ne_0 (tq_y hp2 (x := 162) (y := 3062) (by decide +kernel) (by decide +kernel) h3) (by decide +kernel))) hg97
      obtain ⟨bq99, ebq99⟩ : ∃ z : Int32, z = u94 24 := ⟨_, rfl⟩
      have b100 : kb 0 bq99 1 := kb_eq ebq99 (fI_at hI.1 24 (by decide) (by decide))
      have hr101 : mRs lv cb (ww Ws) bq99 v93.toInt := by have w1 := hw92.2.2.2.2; rw [((eE87 24 (by decide)).trans ecb.symm), ← ebq99] at w1; exact w1
      refine lv_lstore_n (lv' := [(2, .long v93), (0, .ref o), (1, .int lv)]) hx hb dX12_positiveOf_35 rfl hl (by decide) rfl (fun ls hl => ?_)
      refine lv_aload_n hx hb dX12_positiveOf_36 rfl (lv_at hl 1 rfl) ?_
      refine lv_aload_n hx hb dX12_positiveOf_37 rfl (lv_at hl 1 rfl) ?_
      refine va_get (D := D) (ci := 12) (v := .int (u94 22)) (C := RX12) (T := TX12) (N := 48) hx hb hg inC12 hown hK hP 0 rfl rfl 22 (by decide) (hg _ wt5_182) (fun _ h9 => h9) rfl dX12_positiveOf_38 ?_
      refine k_top (z := gv96) egv96.symm ?_
      refine kI.callV (As := [.int gv96]) (rest := []) ⟨hx, hb, hml, hown, hg⟩ (m_codeAt l o r u94 a g hI gv96  t (mm) ob (eS_fE hE hp0 (by decide) (by decide)) hg97) (cwV 1 hg (kgV wt7_47 wt7_49 wp5_8 wt1_14 wt7_50) rfl rfl rfl (by decide +kernel) ⟨by dsimp only [rmD]; omega, by dsimp only [rmD]; omega⟩) hK hP hD hS hA mIs [] rfl (wr := []) rfl rfl rfl (fun i h => by cases h) 0 12 rfl rfl rfl hl.1 rfl (Nat.le_of_ble_eq_true rfl) dX12_positiveOf_41 ⟨Nat.le_refl _, Nat.le_refl _⟩ (fun v103 u104 H locs hw102 hP hD hS => ?_)
      have hP : va_P D vwCl (mW K o r u94 a g) H := hP
      have hD : va_D A (mW K o r u94 a g) := hD
      refine k_top (z := 162) (hw102.2.trans (tq_y hp2 (x := 162) (y := 3062) (by decide +kernel) (by decide +kernel) h3)) ?_
      refine lv_istore (lv' := [(4, .int 162), (2, .long v93), (0, .ref o), (1, .int lv)]) hx hb dX12_positiveOf_44 hl (by decide) rfl (fun ls hl => ?_)
      refine lv_aload_n hx hb dX12_positiveOf_46 rfl (lv_at hl 2 rfl) ?_
      refine lv_dup hx hb dX12_positiveOf_47 rfl ?_
      refine va_get (D := D) (ci := 12) (v := .int (u94 22)) (C := RX12) (T := TX12) (N := 48) hx hb hg inC12 hown hK hP 0 rfl rfl 22 (by decide) (hg _ wt5_182) (fun _ h9 => h9) rfl dX12_positiveOf_48 ?_
      refine k_top (z := gv96) egv96.symm ?_
      refine lv_iconst (v := 1) hx hb dX12_positiveOf_51 (by decide) ?_
      refine lv_iadd hx hb dX12_positiveOf_52 ?_
      refine lv_topi (fun t105 et105 => ?_)
      have b106 : kb 1 t105 2800 := kb_eq et105 (kb_add b98 kc_1 (by decide) (by decide))
      have qt105 : t105.toInt = gv96.toInt + 1 := by rw [et105]; exact kt_addc b98 kc_1 (by decide) (by decide)
      have hg107 : t105.toInt = 400 * (t : Int) + ((mm + 1 : Nat) : Int) := by rw [qt105, hg97]; omega
      refine va_put (D := D) (ci := 12) (v := .int t105) (ty := .int) (C := RX12) (T := TX12) (N := 48) hx hb hg inC12 tyX12 tyX12_ok nmX12 hown hK hP hD hS 0 rfl rfl 22 (by decide) (hg _ wt5_182) (fun _ h9 => h9) rfl (by decide +kernel) rfl rfl (Nat.le_of_ble_eq_true rfl) dX12_positiveOf_53 (fun H locs hP hD hS => ?_)
      have hP : va_P D vwCl (mW K o r (upd u94 22 t105) a g) H := hP
      have hD : va_D A (mW K o r (upd u94 22 t105) a g) := hD
      refine k_gen (P := fun z => va_P D vwCl (mW K o r z a g) H ∧ va_D A (mW K o r z a g) ∧ (mI z a) ∧ (fE [22, 24] f z)) (upd u94 22 t105) ⟨hP, hD, (mI_f hI (fI_st hI.1 22 (kb_any _) (by decide) (by decide))), (fE_f hE (by decide))⟩ (fun f_108 ef_108 hq => ?_)
      obtain ⟨hP, hD, hI, hE⟩ := hq
      refine lv_aload_n hx hb dX12_positiveOf_56 rfl (lv_at hl 2 rfl) ?_
      refine lv_iload_n hx hb dX12_positiveOf_57 rfl (lv_at hl 3 rfl) ?_
      refine kL.callV (As := [.int lv]) (rest := []) ⟨hx, hb, hml, hown, hg⟩ (hsum l o r f_108 a g hI lv blv t (mm + 1) (j) ob T Ws zz (eS_fE hE hp0 (by decide) (by decide)) (by rw [(show f_108 22 = t105 from by rw [← ef_108]; rfl)]; exact hg107) hp2 (wQ_fE hE hp3 (by decide) (by decide)) h4) (cwV 1 hg (kgV wt7_51 wt7_53 wp5_9 wt1_14 wt7_54) rfl rfl rfl (by decide +kernel) ⟨by dsimp only [rmD]; omega, by dsimp only [rmD]; omega⟩) hK hP hD hS hA mIs [] rfl (wr := []) rfl rfl rfl (fun i h => by cases h) 0 12 rfl rfl rfl hl.1 rfl (Nat.le_of_ble_eq_true rfl) dX12_positiveOf_58 ⟨Nat.le_refl _, Nat.le_refl _⟩ (fun v110 u111 H locs hw109 hP hD hS => ?_)
      have hP : va_P D vwCl (mW K o r u111 a g) H := hP
      have hD : va_D A (mW K o r u111 a g) := hD
      have hI : mI u111 a := hw109.2.1
      have eE112 : fE [22, 24] f_108 u111 := hw109.2.2.1
      have hE : fE [22, 24] f u111 := fE_tr hE eE112
      obtain ⟨gv113, egv113⟩ : ∃ z : Int32, z = u111 22 := ⟨_, rfl⟩
      have hg114 : gv113.toInt = 400 * (t : Int) + ((j : Nat) : Int) := by rw [egv113]; exact hw109.2.2.2.1
      obtain ⟨bq115, ebq115⟩ : ∃ z : Int32, z = u111 24 := ⟨_, rfl⟩
      have b116 : kb 0 bq115 1 := kb_eq ebq115 (fI_at hI.1 24 (by decide) (by decide))
      have hr117 : mRs lv bq99 (zz Ws) bq115 v110.toInt := by have w1 := hw109.2.2.2.2; rw [((show f_108 24 = u94 24 from by rw [← ef_108]; rfl).trans ebq99.symm), ← ebq115] at w1; exact w1
      refine lv_lstore (lv' := [(5, .long v110), (4, .int 162), (2, .long v93), (0, .ref o), (1, .int lv)]) hx hb dX12_positiveOf_61 hl (by decide) rfl (fun ls hl => ?_)
      refine lv_iload_n hx hb dX12_positiveOf_63 rfl (lv_at hl 4 rfl) ?_
      refine lv_if_eq (tgt := 125) hx hb dX12_positiveOf_64 (by decide) (fun c118 => ?_) (fun c118 => ?_)
      · have b119 : kb 0 lv 0 := kb_eq c118 kc_0
        refine lv_iconst (v := 0) hx hb dX12_positiveOf_125 (by decide) ?_
        exact kI_ret (v := 0) hx hb hr hlocks (by decide +kernel) hK hS dX12_positiveOf_126 u111 hP hD ⟨(kb_w kc_0 (by decide) (by decide)), hI, hE, (by rw [egv113.symm]; exact hg114), (by show mTv lv (f 24) (v_ Ws) (u111 24) 0; rw [ebq115.symm, ← ecb]; exact (by rw [hv, show jnO (opC (T mm)) ww zz Ws = ((ww Ws).bind fun p => (zz Ws).bind fun q => jnV (opC (T mm)) p q) from rfl, show opC (T mm) = 11 from (by rw [h3]; decide +kernel)]; exact m_cmp hr101 hr117 (fun l _ => absurd (c118.symm.trans l) (by decide +kernel))))⟩
      · have b120 : kb 1 lv 1 := kr_nel c118 blv kc_0 (by decide)
        refine lv_aload_n hx hb dX12_positiveOf_67 rfl (lv_at hl 3 rfl) ?_
        refine va_get (D := D) (ci := 12) (v := .int (u111 24)) (C := RX12) (T := TX12) (N := 48) hx hb hg inC12 hown hK hP 0 rfl rfl 24 (by decide) (hg _ wt5_184) (fun _ h9 => h9) rfl dX12_positiveOf_68 ?_
        refine k_top (z := bq115) ebq115.symm ?_
        refine lv_if_ne (tgt := 125) hx hb dX12_positiveOf_71 (by decide) (fun c121 => ?_) (fun c121 => ?_)
        · have b122 : kb 1 bq115 1 := kr_nel c121 b116 kc_0 (by decide)
          refine lv_iconst (v := 0) hx hb dX12_positiveOf_125 (by decide) ?_
          exact kI_ret (v := 0) hx hb hr hlocks (by decide +kernel) hK hS dX12_positiveOf_126 u111 hP hD ⟨(kb_w kc_0 (by decide) (by decide)), hI, hE, (by rw [egv113.symm]; exact hg114), (by show mTv lv (f 24) (v_ Ws) (u111 24) 0; rw [ebq115.symm, ← ecb]; exact (by rw [hv, show jnO (opC (T mm)) ww zz Ws = ((ww Ws).bind fun p => (zz Ws).bind fun q => jnV (opC (T mm)) p q) from rfl, show opC (T mm) = 11 from (by rw [h3]; decide +kernel)]; exact m_cmp hr101 hr117 (fun _ b => absurd b c121)))⟩
        · have b123 : kb 0 bq115 0 := kb_eq c121 kc_0
          refine lv_iload hx hb dX12_positiveOf_74 (lv_at hl 1 rfl) ?_
          refine lv_bipush (v := 60) hx hb dX12_positiveOf_76 (by decide) ?_
          refine kN.callS (As := [.int 60]) (rest := [.int 162]) ⟨hx, hb, hml, hown, hg⟩ (m_sign l 60 (kb_w kc_60 (by decide) (by decide))) (va_cwS 1 hg (kgS wt6_220 wt6_221 wt1_14 wt6_222) rfl rfl rfl (by decide +kernel) ⟨by dsimp only [rmD]; omega, by dsimp only [rmD]; omega⟩) hP hS rfl hl.1 rfl (Nat.le_of_ble_eq_true rfl) dX12_positiveOf_78 ⟨Nat.le_refl _, Nat.le_refl _⟩ (fun v125 H locs hw124 hP hS => ?_)
          refine k_top (z := 160) (Int32.toInt_inj.mp (hw124.2.trans (by decide +kernel))) ?_
          refine lv_icmp_ne (tgt := 94) hx hb dX12_positiveOf_81 (by decide) (fun c127 => ?_) (fun c127 => ?_)
          · refine lv_iload hx hb dX12_positiveOf_94 (lv_at hl 1 rfl) ?_
            refine lv_bipush (v := 62) hx hb dX12_positiveOf_96 (by decide) ?_
            refine kN.callS (As := [.int 62]) (rest := [.int 162]) ⟨hx, hb, hml, hown, hg⟩ (m_sign l 62 (kb_w kc_62 (by decide) (by decide))) (va_cwS 1 hg (kgS wt6_220 wt6_221 wt1_14 wt6_222) rfl rfl rfl (by decide +kernel) ⟨by dsimp only [rmD]; omega, by dsimp only [rmD]; omega⟩) hP hS rfl hl.1 rfl (Nat.le_of_ble_eq_true rfl) dX12_positiveOf_98 ⟨Nat.le_refl _, Nat.le_refl _⟩ (fun v129 H locs hw128 hP hS => ?_)
            refine k_top (z := 162) (Int32.toInt_inj.mp (hw128.2.trans (by decide +kernel))) ?_
            refine lv_icmp_ne (tgt := 114) hx hb dX12_positiveOf_101 (by decide) (fun c131 => ?_) (fun c131 => ?_)
            · exact kb_nsame c131 kc_162 kc_162
            · refine lv_lload_n hx hb dX12_positiveOf_104 rfl (lv_at hl 2 rfl) ?_
              refine lv_lload hx hb dX12_positiveOf_105 (lv_at hl 0 rfl) ?_
              refine W.lcmp hx hb dX12_positiveOf_107 ?_
              refine lv_topi (fun t132 et132 => ?_)
              refine lv_if_le (tgt := 125) hx hb dX12_positiveOf_108 (by decide) (fun c133 => ?_) (fun c133 => ?_)
              · have h134 := klc_le (et132 ▸ c133)
                refine lv_iconst (v := 0) hx hb dX12_positiveOf_125 (by decide) ?_
                exact kI_ret (v := 0) hx hb hr hlocks (by decide +kernel) hK hS dX12_positiveOf_126 u111 hP hD ⟨(kb_w kc_0 (by decide) (by decide)), hI, hE, (by rw [egv113.symm]; exact hg114), (by show mTv lv (f 24) (v_ Ws) (u111 24) 0; rw [ebq115.symm, ← ecb]; exact (by rw [hv, show jnO (opC (T mm)) ww zz Ws = ((ww Ws).bind fun p => (zz Ws).bind fun q => jnV (opC (T mm)) p q) from rfl, show opC (T mm) = 11 from (by rw [h3]; decide +kernel)]; exact m_cmp hr101 hr117 (fun _ _ => by show some (if _ then (1 : Int) else 0) = some _; rw [if_neg (fun q => absurd h134 (Int.not_le.mpr q))]; decide +kernel)))⟩
              · have h135 := klc_nle (et132 ▸ c133)
                have b136 : kbl (-9223372036854775807) v93 9223372036854775807 := klr_lt2 h135 (kbl_any v110) (kbl_any v93) (by decide)
                have b137 : kbl (-9223372036854775808) v110 9223372036854775806 := klr_lt1 h135 (kbl_any v110) (kbl_any v93) (by decide)
                refine lv_goto (tgt := 121) hx hb dX12_positiveOf_111 (by decide) ?_
                refine lv_iconst (v := 1) hx hb dX12_positiveOf_121 (by decide) ?_
                refine lv_goto (tgt := 126) hx hb dX12_positiveOf_122 (by decide) ?_
                exact kI_ret (v := 1) hx hb hr hlocks (by decide +kernel) hK hS dX12_positiveOf_126 u111 hP hD ⟨(kb_w kc_1 (by decide) (by decide)), hI, hE, (by rw [egv113.symm]; exact hg114), (by show mTv lv (f 24) (v_ Ws) (u111 24) 1; rw [ebq115.symm, ← ecb]; exact (by rw [hv, show jnO (opC (T mm)) ww zz Ws = ((ww Ws).bind fun p => (zz Ws).bind fun q => jnV (opC (T mm)) p q) from rfl, show opC (T mm) = 11 from (by rw [h3]; decide +kernel)]; exact m_cmp hr101 hr117 (fun _ _ => by show some (if _ then (1 : Int) else 0) = some _; rw [if_pos h135]; decide +kernel)))⟩
          · exact kb_dj c127 kc_162 kc_160 (by decide)
    · exact kb_nsame c91 kc_0 kc_0
  · refine lv_aload_n hx hb dX12_positiveOf_0 rfl (lv_at hl 0 rfl) ?_
    refine lv_bipush (v := 40) hx hb dX12_positiveOf_1 (by decide) ?_
    refine kN.callS (As := [.int 40]) (rest := [.ref o]) ⟨hx, hb, hml, hown, hg⟩ (m_sign l 40 (kb_w kc_40 (by decide) (by decide))) (va_cwS 1 hg (kgS wt6_220 wt6_221 wt1_14 wt6_222) rfl rfl rfl (by decide +kernel) ⟨by dsimp only [rmD]; omega, by dsimp only [rmD]; omega⟩) hP hS rfl hl.1 rfl (Nat.le_of_ble_eq_true rfl) dX12_positiveOf_3 ⟨Nat.le_refl _, Nat.le_refl _⟩ (fun v139 H locs hw138 hP hS => ?_)
    refine k_top (z := 140) (Int32.toInt_inj.mp (hw138.2.trans (by decide +kernel))) ?_
    refine kI.callV (As := [.int 140]) (rest := []) ⟨hx, hb, hml, hown, hg⟩ (m_passes0 l o r f a g hI 140 (kb_w kc_140 (by decide) (by decide)) t (i) ob (eS_fE hE hp0 (by decide) (by decide)) (by rw [ec22.symm]; exact hg0)) (cwV 1 hg (kgV wt7_63 wt7_65 wp5_12 wt1_14 wt7_66) rfl rfl rfl (by decide +kernel) ⟨by dsimp only [rmD]; omega, by dsimp only [rmD]; omega⟩) hK hP hD hS hA mIs [] rfl (wr := []) rfl rfl rfl (fun i h => by cases h) 0 12 rfl rfl rfl hl.1 rfl (Nat.le_of_ble_eq_true rfl) dX12_positiveOf_6 ⟨Nat.le_refl _, Nat.le_refl _⟩ (fun v142 u143 H locs hw141 hP hD hS => ?_)
    have hP : va_P D vwCl (mW K o r u143 a g) H := hP
    have hD : va_D A (mW K o r u143 a g) := hD
    have hI : mI u143 a := hw141.2.1
    have eE144 : fE [22] f u143 := hw141.2.2.1
    have hE : fE [22, 24] f u143 := fE_tr hE (fE_w (by decide) eE144)
    have hz145 := pass_n hw141.2.2.2 (tq_n hp2 (x := 140) (y := 3040) (by decide +kernel) (by decide +kernel) h1)
    refine k_top (z := 0) hz145.1 ?_
    obtain ⟨gv146, egv146⟩ : ∃ z : Int32, z = u143 22 := ⟨_, rfl⟩
    have hg147 : gv146.toInt = 400 * (t : Int) + ((i : Nat) : Int) := by rw [egv146]; exact hz145.2
    refine lv_if_eq (tgt := 30) hx hb dX12_positiveOf_9 (by decide) (fun c148 => ?_) (fun c148 => ?_)
    · refine lv_aload_n hx hb dX12_positiveOf_30 rfl (lv_at hl 0 rfl) ?_
      refine lv_iload_n hx hb dX12_positiveOf_31 rfl (lv_at hl 1 rfl) ?_
      refine kL.callV (As := [.int lv]) (rest := []) ⟨hx, hb, hml, hown, hg⟩ (hsum l o r u143 a g hI lv blv t (i) (mm) ob T Ws ww (eS_fE hE hp0 (by decide) (by decide)) (by rw [egv146.symm]; exact hg147) hp2 (wQ_fE hE hp3 (by decide) (by decide)) h2) (cwV 1 hg (kgV wt7_51 wt7_53 wp5_9 wt1_14 wt7_54) rfl rfl rfl (by decide +kernel) ⟨by dsimp only [rmD]; omega, by dsimp only [rmD]; omega⟩) hK hP hD hS hA mIs [] rfl (wr := []) rfl rfl rfl (fun i h => by cases h) 0 12 rfl rfl rfl hl.1 rfl (Nat.le_of_ble_eq_true rfl) dX12_positiveOf_32 ⟨Nat.le_refl _, Nat.le_refl _⟩ (fun v150 u151 H locs hw149 hP hD hS => ?_)
      have hP : va_P D vwCl (mW K o r u151 a g) H := hP
      have hD : va_D A (mW K o r u151 a g) := hD
      have hI : mI u151 a := hw149.2.1
      have eE152 : fE [22, 24] u143 u151 := hw149.2.2.1
      have hE : fE [22, 24] f u151 := fE_tr hE eE152
      obtain ⟨gv153, egv153⟩ : ∃ z : Int32, z = u151 22 := ⟨_, rfl⟩
      have hg154 : gv153.toInt = 400 * (t : Int) + ((mm : Nat) : Int) := by rw [egv153]; exact hw149.2.2.2.1
      have b155 : kb 0 gv153 2799 := kb_go (eS_fE hE hp0 (by decide) (by decide)) (mC_lt (eS_fE hE hp0 (by decide) (by decide)) (ne_0 (tq_y hp2 (x := 161) (y := 3061) (by decide +kernel) (by decide +kernel) h3) (by decide +kernel))) hg154
      obtain ⟨bq156, ebq156⟩ : ∃ z : Int32, z = u151 24 := ⟨_, rfl⟩
      have b157 : kb 0 bq156 1 := kb_eq ebq156 (fI_at hI.1 24 (by decide) (by decide))
      have hr158 : mRs lv cb (ww Ws) bq156 v150.toInt := by have w1 := hw149.2.2.2.2; rw [((eE144 24 (by decide)).trans ecb.symm), ← ebq156] at w1; exact w1
      refine lv_lstore_n (lv' := [(2, .long v150), (0, .ref o), (1, .int lv)]) hx hb dX12_positiveOf_35 rfl hl (by decide) rfl (fun ls hl => ?_)
      refine lv_aload_n hx hb dX12_positiveOf_36 rfl (lv_at hl 1 rfl) ?_
      refine lv_aload_n hx hb dX12_positiveOf_37 rfl (lv_at hl 1 rfl) ?_
      refine va_get (D := D) (ci := 12) (v := .int (u151 22)) (C := RX12) (T := TX12) (N := 48) hx hb hg inC12 hown hK hP 0 rfl rfl 22 (by decide) (hg _ wt5_182) (fun _ h9 => h9) rfl dX12_positiveOf_38 ?_
      refine k_top (z := gv153) egv153.symm ?_
      refine kI.callV (As := [.int gv153]) (rest := []) ⟨hx, hb, hml, hown, hg⟩ (m_codeAt l o r u151 a g hI gv153  t (mm) ob (eS_fE hE hp0 (by decide) (by decide)) hg154) (cwV 1 hg (kgV wt7_47 wt7_49 wp5_8 wt1_14 wt7_50) rfl rfl rfl (by decide +kernel) ⟨by dsimp only [rmD]; omega, by dsimp only [rmD]; omega⟩) hK hP hD hS hA mIs [] rfl (wr := []) rfl rfl rfl (fun i h => by cases h) 0 12 rfl rfl rfl hl.1 rfl (Nat.le_of_ble_eq_true rfl) dX12_positiveOf_41 ⟨Nat.le_refl _, Nat.le_refl _⟩ (fun v160 u161 H locs hw159 hP hD hS => ?_)
      have hP : va_P D vwCl (mW K o r u151 a g) H := hP
      have hD : va_D A (mW K o r u151 a g) := hD
      refine k_top (z := 161) (hw159.2.trans (tq_y hp2 (x := 161) (y := 3061) (by decide +kernel) (by decide +kernel) h3)) ?_
      refine lv_istore (lv' := [(4, .int 161), (2, .long v150), (0, .ref o), (1, .int lv)]) hx hb dX12_positiveOf_44 hl (by decide) rfl (fun ls hl => ?_)
      refine lv_aload_n hx hb dX12_positiveOf_46 rfl (lv_at hl 2 rfl) ?_
      refine lv_dup hx hb dX12_positiveOf_47 rfl ?_
      refine va_get (D := D) (ci := 12) (v := .int (u151 22)) (C := RX12) (T := TX12) (N := 48) hx hb hg inC12 hown hK hP 0 rfl rfl 22 (by decide) (hg _ wt5_182) (fun _ h9 => h9) rfl dX12_positiveOf_48 ?_
      refine k_top (z := gv153) egv153.symm ?_
      refine lv_iconst (v := 1) hx hb dX12_positiveOf_51 (by decide) ?_
      refine lv_iadd hx hb dX12_positiveOf_52 ?_
      refine lv_topi (fun t162 et162 => ?_)
      have b163 : kb 1 t162 2800 := kb_eq et162 (kb_add b155 kc_1 (by decide) (by decide))
      have qt162 : t162.toInt = gv153.toInt + 1 := by rw [et162]; exact kt_addc b155 kc_1 (by decide) (by decide)
      have hg164 : t162.toInt = 400 * (t : Int) + ((mm + 1 : Nat) : Int) := by rw [qt162, hg154]; omega
      refine va_put (D := D) (ci := 12) (v := .int t162) (ty := .int) (C := RX12) (T := TX12) (N := 48) hx hb hg inC12 tyX12 tyX12_ok nmX12 hown hK hP hD hS 0 rfl rfl 22 (by decide) (hg _ wt5_182) (fun _ h9 => h9) rfl (by decide +kernel) rfl rfl (Nat.le_of_ble_eq_true rfl) dX12_positiveOf_53 (fun H locs hP hD hS => ?_)
      have hP : va_P D vwCl (mW K o r (upd u151 22 t162) a g) H := hP
      have hD : va_D A (mW K o r (upd u151 22 t162) a g) := hD
      refine k_gen (P := fun z => va_P D vwCl (mW K o r z a g) H ∧ va_D A (mW K o r z a g) ∧ (mI z a) ∧ (fE [22, 24] f z)) (upd u151 22 t162) ⟨hP, hD, (mI_f hI (fI_st hI.1 22 (kb_any _) (by decide) (by decide))), (fE_f hE (by decide))⟩ (fun f_165 ef_165 hq => ?_)
      obtain ⟨hP, hD, hI, hE⟩ := hq
      refine lv_aload_n hx hb dX12_positiveOf_56 rfl (lv_at hl 2 rfl) ?_
      refine lv_iload_n hx hb dX12_positiveOf_57 rfl (lv_at hl 3 rfl) ?_
      refine kL.callV (As := [.int lv]) (rest := []) ⟨hx, hb, hml, hown, hg⟩ (hsum l o r f_165 a g hI lv blv t (mm + 1) (j) ob T Ws zz (eS_fE hE hp0 (by decide) (by decide)) (by rw [(show f_165 22 = t162 from by rw [← ef_165]; rfl)]; exact hg164) hp2 (wQ_fE hE hp3 (by decide) (by decide)) h4) (cwV 1 hg (kgV wt7_51 wt7_53 wp5_9 wt1_14 wt7_54) rfl rfl rfl (by decide +kernel) ⟨by dsimp only [rmD]; omega, by dsimp only [rmD]; omega⟩) hK hP hD hS hA mIs [] rfl (wr := []) rfl rfl rfl (fun i h => by cases h) 0 12 rfl rfl rfl hl.1 rfl (Nat.le_of_ble_eq_true rfl) dX12_positiveOf_58 ⟨Nat.le_refl _, Nat.le_refl _⟩ (fun v167 u168 H locs hw166 hP hD hS => ?_)
      have hP : va_P D vwCl (mW K o r u168 a g) H := hP
      have hD : va_D A (mW K o r u168 a g) := hD
      have hI : mI u168 a := hw166.2.1
      have eE169 : fE [22, 24] f_165 u168 := hw166.2.2.1
      have hE : fE [22, 24] f u168 := fE_tr hE eE169
      obtain ⟨gv170, egv170⟩ : ∃ z : Int32, z = u168 22 := ⟨_, rfl⟩
      have hg171 : gv170.toInt = 400 * (t : Int) + ((j : Nat) : Int) := by rw [egv170]; exact hw166.2.2.2.1
      obtain ⟨bq172, ebq172⟩ : ∃ z : Int32, z = u168 24 := ⟨_, rfl⟩
      have b173 : kb 0 bq172 1 := kb_eq ebq172 (fI_at hI.1 24 (by decide) (by decide))
      have hr174 : mRs lv bq156 (zz Ws) bq172 v167.toInt := by have w1 := hw166.2.2.2.2; rw [((show f_165 24 = u151 24 from by rw [← ef_165]; rfl).trans ebq156.symm), ← ebq172] at w1; exact w1
      refine lv_lstore (lv' := [(5, .long v167), (4, .int 161), (2, .long v150), (0, .ref o), (1, .int lv)]) hx hb dX12_positiveOf_61 hl (by decide) rfl (fun ls hl => ?_)
      refine lv_iload_n hx hb dX12_positiveOf_63 rfl (lv_at hl 4 rfl) ?_
      refine lv_if_eq (tgt := 125) hx hb dX12_positiveOf_64 (by decide) (fun c175 => ?_) (fun c175 => ?_)
      · have b176 : kb 0 lv 0 := kb_eq c175 kc_0
        refine lv_iconst (v := 0) hx hb dX12_positiveOf_125 (by decide) ?_
        exact kI_ret (v := 0) hx hb hr hlocks (by decide +kernel) hK hS dX12_positiveOf_126 u168 hP hD ⟨(kb_w kc_0 (by decide) (by decide)), hI, hE, (by rw [egv170.symm]; exact hg171), (by show mTv lv (f 24) (v_ Ws) (u168 24) 0; rw [ebq172.symm, ← ecb]; exact (by rw [hv, show jnO (opC (T mm)) ww zz Ws = ((ww Ws).bind fun p => (zz Ws).bind fun q => jnV (opC (T mm)) p q) from rfl, show opC (T mm) = 12 from (by rw [h3]; decide +kernel)]; exact m_cmp hr158 hr174 (fun l _ => absurd (c175.symm.trans l) (by decide +kernel))))⟩
      · have b177 : kb 1 lv 1 := kr_nel c175 blv kc_0 (by decide)
        refine lv_aload_n hx hb dX12_positiveOf_67 rfl (lv_at hl 3 rfl) ?_
        refine va_get (D := D) (ci := 12) (v := .int (u168 24)) (C := RX12) (T := TX12) (N := 48) hx hb hg inC12 hown hK hP 0 rfl rfl 24 (by decide) (hg _ wt5_184) (fun _ h9 => h9) rfl dX12_positiveOf_68 ?_
        refine k_top (z := bq172) ebq172.symm ?_
        refine lv_if_ne (tgt := 125) hx hb dX12_positiveOf_71 (by decide) (fun c178 => ?_) (fun c178 => ?_)
        · have b179 : kb 1 bq172 1 := kr_nel c178 b173 kc_0 (by decide)
          refine lv_iconst (v := 0) hx hb dX12_positiveOf_125 (by decide) ?_
          exact kI_ret (v := 0) hx hb hr hlocks (by decide +kernel) hK hS dX12_positiveOf_126 u168 hP hD ⟨(kb_w kc_0 (by decide) (by decide)), hI, hE, (by rw [egv170.symm]; exact hg171), (by show mTv lv (f 24) (v_ Ws) (u168 24) 0; rw [ebq172.symm, ← ecb]; exact (by rw [hv, show jnO (opC (T mm)) ww zz Ws = ((ww Ws).bind fun p => (zz Ws).bind fun q => jnV (opC (T mm)) p q) from rfl, show opC (T mm) = 12 from (by rw [h3]; decide +kernel)]; exact m_cmp hr158 hr174 (fun _ b => absurd b c178)))⟩
        · have b180 : kb 0 bq172 0 := kb_eq c178 kc_0
          refine lv_iload hx hb dX12_positiveOf_74 (lv_at hl 1 rfl) ?_
          refine lv_bipush (v := 60) hx hb dX12_positiveOf_76 (by decide) ?_
          refine kN.callS (As := [.int 60]) (rest := [.int 161]) ⟨hx, hb, hml, hown, hg⟩ (m_sign l 60 (kb_w kc_60 (by decide) (by decide))) (va_cwS 1 hg (kgS wt6_220 wt6_221 wt1_14 wt6_222) rfl rfl rfl (by decide +kernel) ⟨by dsimp only [rmD]; omega, by dsimp only [rmD]; omega⟩) hP hS rfl hl.1 rfl (Nat.le_of_ble_eq_true rfl) dX12_positiveOf_78 ⟨Nat.le_refl _, Nat.le_refl _⟩ (fun v182 H locs hw181 hP hS => ?_)
          refine k_top (z := 160) (Int32.toInt_inj.mp (hw181.2.trans (by decide +kernel))) ?_
          refine lv_icmp_ne (tgt := 94) hx hb dX12_positiveOf_81 (by decide) (fun c184 => ?_) (fun c184 => ?_)
          · refine lv_iload hx hb dX12_positiveOf_94 (lv_at hl 1 rfl) ?_
            refine lv_bipush (v := 62) hx hb dX12_positiveOf_96 (by decide) ?_
            refine kN.callS (As := [.int 62]) (rest := [.int 161]) ⟨hx, hb, hml, hown, hg⟩ (m_sign l 62 (kb_w kc_62 (by decide) (by decide))) (va_cwS 1 hg (kgS wt6_220 wt6_221 wt1_14 wt6_222) rfl rfl rfl (by decide +kernel) ⟨by dsimp only [rmD]; omega, by dsimp only [rmD]; omega⟩) hP hS rfl hl.1 rfl (Nat.le_of_ble_eq_true rfl) dX12_positiveOf_98 ⟨Nat.le_refl _, Nat.le_refl _⟩ (fun v186 H locs hw185 hP hS => ?_)
            refine k_top (z := 162) (Int32.toInt_inj.mp (hw185.2.trans (by decide +kernel))) ?_
            refine lv_icmp_ne (tgt := 114) hx hb dX12_positiveOf_101 (by decide) (fun c188 => ?_) (fun c188 => ?_)
            · refine lv_lload_n hx hb dX12_positiveOf_114 rfl (lv_at hl 2 rfl) ?_
              refine lv_lload hx hb dX12_positiveOf_115 (lv_at hl 0 rfl) ?_
              refine W.lcmp hx hb dX12_positiveOf_117 ?_
              refine lv_topi (fun t189 et189 => ?_)
              refine lv_if_ne (tgt := 125) hx hb dX12_positiveOf_118 (by decide) (fun c190 => ?_) (fun c190 => ?_)
              · have h191 := klc_ne (et189 ▸ c190)
                refine lv_iconst (v := 0) hx hb dX12_positiveOf_125 (by decide) ?_
                exact kI_ret (v := 0) hx hb hr hlocks (by decide +kernel) hK hS dX12_positiveOf_126 u168 hP hD ⟨(kb_w kc_0 (by decide) (by decide)), hI, hE, (by rw [egv170.symm]; exact hg171), (by show mTv lv (f 24) (v_ Ws) (u168 24) 0; rw [ebq172.symm, ← ecb]; exact (by rw [hv, show jnO (opC (T mm)) ww zz Ws = ((ww Ws).bind fun p => (zz Ws).bind fun q => jnV (opC (T mm)) p q) from rfl, show opC (T mm) = 12 from (by rw [h3]; decide +kernel)]; exact m_cmp hr158 hr174 (fun _ _ => by show some (if _ then (1 : Int) else 0) = some _; rw [if_neg (fun q => h191 (Int64.toInt_inj.mp q))]; decide +kernel)))⟩
              · have h192 := klc_eq (et189 ▸ c190)
                refine lv_iconst (v := 1) hx hb dX12_positiveOf_121 (by decide) ?_
                refine lv_goto (tgt := 126) hx hb dX12_positiveOf_122 (by decide) ?_
                exact kI_ret (v := 1) hx hb hr hlocks (by decide +kernel) hK hS dX12_positiveOf_126 u168 hP hD ⟨(kb_w kc_1 (by decide) (by decide)), hI, hE, (by rw [egv170.symm]; exact hg171), (by show mTv lv (f 24) (v_ Ws) (u168 24) 1; rw [ebq172.symm, ← ecb]; exact (by rw [hv, show jnO (opC (T mm)) ww zz Ws = ((ww Ws).bind fun p => (zz Ws).bind fun q => jnV (opC (T mm)) p q) from rfl, show opC (T mm) = 12 from (by rw [h3]; decide +kernel)]; exact m_cmp hr158 hr174 (fun _ _ => by show some (if _ then (1 : Int) else 0) = some _; rw [if_pos (congrArg Int64.toInt h192)]; decide +kernel)))⟩
            · exact kb_dj c188 kc_161 kc_162 (by decide)
          · exact kb_dj c184 kc_161 kc_160 (by decide)
    · exact kb_nsame c148 kc_0 kc_0
set_option maxHeartbeats 4000000 in
set_option maxRecDepth 100000 in
theorem n_plainOf (d : Nat) (hpos : nPos d) (l : Launch) {D : va_G} {K : Nat → ClassId} (o : Nat) (r : Nat → Nat) (f : Nat → Int32) (a : Nat → Nat → Int32) (g : Nat → Int64) (hI : mI f a) (lv : Int32) (blv : kb 0 lv 1) (t i j : Nat) (ob : Bool) (T : Nat → Int32) (Ws : Nat → Int) (v_ : eV) (hp0 : eS f a t ob) (hp1 : (f 22).toInt = 400 * (t : Int) + (i : Int)) (hp2 : tQ (a 2) t T) (hp3 : wQ ob Ws f a) (hp4 : eG ob T d 5 i e1 j v_) : kI l yX12_plainOf (Cond.code yX12_plainOf cX12_plainOf 3 (some .boolean) :: kG) (rmD (4 * d + 13) 0 0) D (tysK K) [.ref o, .int lv] (mW K o r f a g) (fun v (u : Nat → Int32) => kb 0 v 1 ∧ mI u a ∧ fE [22, 24] f u ∧ (u 22).toInt = 400 * (t : Int) + (j : Int) ∧ mTv lv (f 24) (v_ Ws) (u 24) v) (fun u => mW K o r u a g) 0 0 := by
  refine kI.of (cc := cX12_plainOf) (maxL := 3) (ret := (some .boolean)) (by decide) rfl (Nat.le_of_ble_eq_true rfl) ?_
  intro p e s m below meth c A hx hb hr hml hown hts hlocks hnm hK hP hD hS hA ls hl
  have hE : fE [22, 24] f f := fE_rf
  have hg : ∀ w ∈ kG, w.before _ s = true := fun w h => hts w (List.mem_cons_of_mem _ h)
  have hown : s.vm.findClass RX12 = some m.cls := hown
  have hl : lv_has ls 3 [(0, .ref o), (1, .int lv)] := hl
  obtain ⟨c22, ec22⟩ : ∃ z : Int32, z = f 22 := ⟨_, rfl⟩
  have hg0 : c22.toInt = 400 * (t : Int) + (i : Int) := by rw [ec22]; exact hp1
  obtain ⟨cb, ecb⟩ : ∃ z : Int32, z = f 24 := ⟨_, rfl⟩
  have b1 : kb 0 cb 1 := kb_eq ecb (fI_at hI.1 24 (by decide) (by decide))
  obtain ⟨n0, hn0⟩ := hp4
  refine lv_iconst (v := 0) hx hb dX12_plainOf_0 (by decide) ?_
  refine lv_istore_n (lv' := [(2, .int 0), (0, .ref o), (1, .int lv)]) hx hb dX12_plainOf_1 rfl hl (by decide) rfl (fun ls hl => ?_)
  have lp4 : ∀ (n5 : Nat) (i5 : Nat) (v5 : eV) (F3 : Nat → Int32) (H : Heap) (locs : List Loc) (ls : Array Slot) (y2 : Int32), (ee ob T n5 d 5 i5 e1 j v5) → (mI F3 a) → (fE [22, 24] f F3) → (kb 0 y2 1) → ((F3 22).toInt = 400 * (t : Int) + (i5 : Int)) → (v_ = (if y2 = 1 then ntO v5 else v5)) → (F3 24 = cb) → va_P D vwCl (mW K o r F3 a g) H → va_D A (mW K o r F3 a g) → va_S A s.heap H locs → lv_has ls 3 [(2, .int y2), (0, .ref o), (1, .int lv)] → W p l e (rmD (4 * d + 13) 0 0) s m ([.ref o, .int lv] : List Value).toArray below meth c H locs 0 0 (kQi D (tysK K) (fun v (u : Nat → Int32) => kb 0 v 1 ∧ mI u a ∧ fE [22, 24] f u ∧ (u 22).toInt = 400 * (t : Int) + (j : Int) ∧ mTv lv (f 24) (v_ Ws) (u 24) v) (fun u => mW K o r u a g) A below ([.ref o, .int lv] : List Value).toArray s 0 0) (F0 m 2 ls []) := by
    intro n5
    induction n5 with
    | zero =>
      intro i5 v5 F3  H locs ls y2 hmlp4 hI hE b6 hvlp4_0 hvlp4_1 hvlp4_2 hP hD hS hl
      exact (hmlp4 : False).elim
    | succ n5 ihlp4 =>
      intro i5 v5 F3  H locs ls y2 hmlp4 hI hE b6 hvlp4_0 hvlp4_1 hvlp4_2 hP hD hS hl
      obtain ⟨gv7, egv7⟩ : ∃ z : Int32, z = F3 22 := ⟨_, rfl⟩
      have hg8 : gv7.toInt = 400 * (t : Int) + ((i5 : Nat) : Int) := by rw [egv7]; exact hvlp4_0
      have hvn := hvlp4_1
      obtain ⟨bq9, ebq9⟩ : ∃ z : Int32, z = F3 24 := ⟨_, rfl⟩
      have b10 : kb 0 bq9 1 := kb_eq ebq9 (fI_at hI.1 24 (by decide) (by decide))
      have hbc : bq9 = cb := by rw [ebq9]; exact hvlp4_2
      rcases ee_out hmlp4 with ⟨h1, ww, h6, hw5⟩ | ⟨h1, h6⟩
      · have b11 : kb 0 gv7 2799 := kb_go (eS_fE hE hp0 (by decide) (by decide)) (mC_lt (eS_fE hE hp0 (by decide) (by decide)) (ne_0 (tq_y hp2 (x := 8) (y := 2002) (by decide +kernel) (by decide +kernel) h1) (by decide +kernel))) hg8
        refine lv_aload_n hx hb dX12_plainOf_2 rfl (lv_at hl 1 rfl) ?_
        refine lv_bipush (v := 8) hx hb dX12_plainOf_3 (by decide) ?_
        refine kI.callV (As := [.int 8]) (rest := []) ⟨hx, hb, hml, hown, hg⟩ (m_passes0 l o r F3 a g hI 8 (kb_w kc_8 (by decide) (by decide)) t (i5) ob (eS_fE hE hp0 (by decide) (by decide)) (by rw [egv7.symm]; exact hg8)) (cwV 1 hg (kgV wt7_63 wt7_65 wp5_12 wt1_14 wt7_66) rfl rfl rfl (by decide +kernel) ⟨by dsimp only [rmD]; omega, by dsimp only [rmD]; omega⟩) hK hP hD hS hA mIs [] rfl (wr := []) rfl rfl rfl (fun i h => by cases h) 0 12 rfl rfl rfl hl.1 rfl (Nat.le_of_ble_eq_true rfl) dX12_plainOf_5 ⟨Nat.le_refl _, Nat.le_refl _⟩ (fun v13 u14 H locs hw12 hP hD hS => ?_)
        have hP : va_P D vwCl (mW K o r u14 a g) H := hP
        have hD : va_D A (mW K o r u14 a g) := hD
        have hI : mI u14 a := hw12.2.1
        have eE15 : fE [22] F3 u14 := hw12.2.2.1
        have hE : fE [22, 24] f u14 := fE_tr hE (fE_w (by decide) eE15)
        have hz16 := pass_y hw12.2.2.2 (tq_y hp2 (x := 8) (y := 2002) (by decide +kernel) (by decide +kernel) h1)
        refine k_top (z := 1) hz16.1 ?_
        obtain ⟨gv17, egv17⟩ : ∃ z : Int32, z = u14 22 := ⟨_, rfl⟩
        have hg18 : gv17.toInt = 400 * (t : Int) + ((i5 + 1 : Nat) : Int) := by rw [egv17]; exact hz16.2
        refine lv_if_eq (tgt := 24) hx hb dX12_plainOf_8 (by decide) (fun c19 => ?_) (fun c19 => ?_)
        · exact kb_dj c19 kc_1 kc_0 (by decide)
        · refine lv_iload_n hx hb dX12_plainOf_11 rfl (lv_at hl 0 rfl) ?_
          refine lv_if_ne (tgt := 19) hx hb dX12_plainOf_12 (by decide) (fun c20 => ?_) (fun c20 => ?_)
          · have b21 : kb 1 y2 1 := kr_nel c20 b6 kc_0 (by decide)
            refine lv_iconst (v := 0) hx hb dX12_plainOf_19 (by decide) ?_
            refine lv_istore_n (lv' := [(2, .int 0), (0, .ref o), (1, .int lv)]) hx hb dX12_plainOf_20 rfl hl (by decide) rfl (fun ls hl => ?_)
            refine lv_goto (tgt := 2) hx hb dX12_plainOf_21 (by decide) ?_
            exact ihlp4 (i5 + 1) ww u14 _ _ _ 0 (h6) hI hE (kb_w kc_0 (by decide) (by decide)) (by rw [egv17.symm]; exact hg18) (by rw [hvn, hw5, if_pos (kb_11 b21), if_neg (by decide), nt_nt]) (by show u14 24 = cb; rw [((eE15 24 (by decide)).trans ebq9.symm)]; exact hbc) hP hD hS (lv_sub hl [0, 1, 2] rfl)
          · have b22 : kb 0 y2 0 := kb_eq c20 kc_0
            refine lv_iconst (v := 1) hx hb dX12_plainOf_15 (by decide) ?_
            refine lv_goto (tgt := 20) hx hb dX12_plainOf_16 (by decide) ?_
            refine lv_istore_n (lv' := [(2, .int 1), (0, .ref o), (1, .int lv)]) hx hb dX12_plainOf_20 rfl hl (by decide) rfl (fun ls hl => ?_)
            refine lv_goto (tgt := 2) hx hb dX12_plainOf_21 (by decide) ?_
            exact ihlp4 (i5 + 1) ww u14 _ _ _ 1 (h6) hI hE (kb_w kc_1 (by decide) (by decide)) (by rw [egv17.symm]; exact hg18) (by rw [hvn, hw5, if_neg (by rw [c20]; decide), if_pos rfl]) (by show u14 24 = cb; rw [((eE15 24 (by decide)).trans ebq9.symm)]; exact hbc) hP hD hS (lv_sub hl [0, 1, 2] rfl)
      · refine lv_aload_n hx hb dX12_plainOf_2 rfl (lv_at hl 1 rfl) ?_
        refine lv_bipush (v := 8) hx hb dX12_plainOf_3 (by decide) ?_
        refine kI.callV (As := [.int 8]) (rest := []) ⟨hx, hb, hml, hown, hg⟩ (m_passes0 l o r F3 a g hI 8 (kb_w kc_8 (by decide) (by decide)) t (i5) ob (eS_fE hE hp0 (by decide) (by decide)) (by rw [egv7.symm]; exact hg8)) (cwV 1 hg (kgV wt7_63 wt7_65 wp5_12 wt1_14 wt7_66) rfl rfl rfl (by decide +kernel) ⟨by dsimp only [rmD]; omega, by dsimp only [rmD]; omega⟩) hK hP hD hS hA mIs [] rfl (wr := []) rfl rfl rfl (fun i h => by cases h) 0 12 rfl rfl rfl hl.1 rfl (Nat.le_of_ble_eq_true rfl) dX12_plainOf_5 ⟨Nat.le_refl _, Nat.le_refl _⟩ (fun v24 u25 H locs hw23 hP hD hS => ?_)
        have hP : va_P D vwCl (mW K o r u25 a g) H := hP
        have hD : va_D A (mW K o r u25 a g) := hD
        have hI : mI u25 a := hw23.2.1
        have eE26 : fE [22] F3 u25 := hw23.2.2.1
        have hE : fE [22, 24] f u25 := fE_tr hE (fE_w (by decide) eE26)
        have hz27 := pass_n hw23.2.2.2 (tq_n hp2 (x := 8) (y := 2002) (by decide +kernel) (by decide +kernel) h1)
        refine k_top (z := 0) hz27.1 ?_
        obtain ⟨gv28, egv28⟩ : ∃ z : Int32, z = u25 22 := ⟨_, rfl⟩
        have hg29 : gv28.toInt = 400 * (t : Int) + ((i5 : Nat) : Int) := by rw [egv28]; exact hz27.2
        refine lv_if_eq (tgt := 24) hx hb dX12_plainOf_8 (by decide) (fun c30 => ?_) (fun c30 => ?_)
        · refine lv_aload_n hx hb dX12_plainOf_24 rfl (lv_at hl 1 rfl) ?_
          refine lv_iload_n hx hb dX12_plainOf_25 rfl (lv_at hl 2 rfl) ?_
          refine kI.callV (As := [.int lv]) (rest := []) ⟨hx, hb, hml, hown, hg⟩ (hpos l o r u25 a g hI lv blv t (i5) (j) ob T Ws v5 (eS_fE hE hp0 (by decide) (by decide)) (by rw [egv28.symm]; exact hg29) hp2 (wQ_fE hE hp3 (by decide) (by decide)) (eG_of h6)) (cwV 1 hg (kgV wt7_92 wt7_94 wp6_2 wt1_14 wt7_95) rfl rfl rfl (by decide +kernel) ⟨by dsimp only [rmD]; omega, by dsimp only [rmD]; omega⟩) hK hP hD hS hA mIs [] rfl (wr := []) rfl rfl rfl (fun i h => by cases h) 0 12 rfl rfl rfl hl.1 rfl (Nat.le_of_ble_eq_true rfl) dX12_plainOf_26 ⟨Nat.le_refl _, Nat.le_refl _⟩ (fun v32 u33 H locs hw31 hP hD hS => ?_)
          have hP : va_P D vwCl (mW K o r u33 a g) H := hP
          have hD : va_D A (mW K o r u33 a g) := hD
          have hI : mI u33 a := hw31.2.1
          have eE34 : fE [22, 24] u25 u33 := hw31.2.2.1
          have hE : fE [22, 24] f u33 := fE_tr hE eE34
          obtain ⟨gv35, egv35⟩ : ∃ z : Int32, z = u33 22 := ⟨_, rfl⟩
          have hg36 : gv35.toInt = 400 * (t : Int) + ((j : Nat) : Int) := by rw [egv35]; exact hw31.2.2.2.1
          obtain ⟨bq37, ebq37⟩ : ∃ z : Int32, z = u33 24 := ⟨_, rfl⟩
          have b38 : kb 0 bq37 1 := kb_eq ebq37 (fI_at hI.1 24 (by decide) (by decide))
          have hr39 : mTv lv bq9 (v5 Ws) bq37 v32 := by have w1 := hw31.2.2.2.2; rw [((eE26 24 (by decide)).trans ebq9.symm), ← ebq37] at w1; exact w1
          refine lv_iload_n hx hb dX12_plainOf_29 rfl (lv_at hl 0 rfl) ?_
          refine lv_icmp_eq (tgt := 37) hx hb dX12_plainOf_30 (by decide) (fun c40 => ?_) (fun c40 => ?_)
          · refine lv_iconst (v := 0) hx hb dX12_plainOf_37 (by decide) ?_
            exact kI_ret (v := 0) hx hb hr hlocks (by decide +kernel) hK hS dX12_plainOf_38 u33 hP hD ⟨(kb_w kc_0 (by decide) (by decide)), hI, hE, (by rw [egv35.symm]; exact hg36), (by show mTv lv (f 24) (v_ Ws) (u33 24) 0; rw [ebq37.symm, ← ecb]; exact (by rw [← hbc]; exact m_pl hvn hr39 (b01 b6) (b01 hw31.1) (by rw [if_pos c40])))⟩
          · refine lv_iconst (v := 1) hx hb dX12_plainOf_33 (by decide) ?_
            refine lv_goto (tgt := 38) hx hb dX12_plainOf_34 (by decide) ?_
            exact kI_ret (v := 1) hx hb hr hlocks (by decide +kernel) hK hS dX12_plainOf_38 u33 hP hD ⟨(kb_w kc_1 (by decide) (by decide)), hI, hE, (by rw [egv35.symm]; exact hg36), (by show mTv lv (f 24) (v_ Ws) (u33 24) 1; rw [ebq37.symm, ← ecb]; exact (by rw [← hbc]; exact m_pl hvn hr39 (b01 b6) (b01 hw31.1) (by rw [if_neg c40])))⟩
        · exact kb_nsame c30 kc_0 kc_0
  exact lp4 (n0) (i) v_ f _ _ _ 0 (hn0) hI hE (kb_w kc_0 (by decide) (by decide)) (by rw [ec22.symm]; exact hg0) (by rw [if_neg (by decide)]) (by show f 24 = cb; rw [ecb.symm]) hP hD hS (lv_sub hl [0, 1, 2] rfl)
set_option maxHeartbeats 4000000 in
set_option maxRecDepth 100000 in
theorem n_bothOf (d : Nat) (hplain : nPlain d) (l : Launch) {D : va_G} {K : Nat → ClassId} (o : Nat) (r : Nat → Nat) (f : Nat → Int32) (a : Nat → Nat → Int32) (g : Nat → Int64) (hI : mI f a) (lv : Int32) (blv : kb 0 lv 1) (t i j : Nat) (ob : Bool) (T : Nat → Int32) (Ws : Nat → Int) (v_ : eV) (hp0 : eS f a t ob) (hp1 : (f 22).toInt = 400 * (t : Int) + (i : Int)) (hp2 : tQ (a 2) t T) (hp3 : wQ ob Ws f a) (hp4 : eG ob T d 4 i e1 j v_) : kI l yX12_bothOf (Cond.code yX12_bothOf cX12_bothOf 4 (some .boolean) :: kG) (rmD (4 * d + 14) 0 0) D (tysK K) [.ref o, .int lv] (mW K o r f a g) (fun v (u : Nat → Int32) => kb 0 v 1 ∧ mI u a ∧ fE [22, 24] f u ∧ (u 22).toInt = 400 * (t : Int) + (j : Int) ∧ mTv lv (f 24) (v_ Ws) (u 24) v) (fun u => mW K o r u a g) 0 0 := by
  refine kI.of (cc := cX12_bothOf) (maxL := 4) (ret := (some .boolean)) (by decide) rfl (Nat.le_of_ble_eq_true rfl) ?_
  intro p e s m below meth c A hx hb hr hml hown hts hlocks hnm hK hP hD hS hA ls hl
  have hE : fE [22, 24] f f := fE_rf
  have hg : ∀ w ∈ kG, w.before _ s = true := fun w h => hts w (List.mem_cons_of_mem _ h)
  have hown : s.vm.findClass RX12 = some m.cls := hown
  have hl : lv_has ls 4 [(0, .ref o), (1, .int lv)] := hl
  obtain ⟨c22, ec22⟩ : ∃ z : Int32, z = f 22 := ⟨_, rfl⟩
  have hg0 : c22.toInt = 400 * (t : Int) + (i : Int) := by rw [ec22]; exact hp1
  obtain ⟨cb, ecb⟩ : ∃ z : Int32, z = f 24 := ⟨_, rfl⟩
  have b1 : kb 0 cb 1 := kb_eq ecb (fI_at hI.1 24 (by decide) (by decide))
  obtain ⟨m0, w0, hm1, n0, hn0⟩ := eG_out hp4
  refine lv_aload_n hx hb dX12_bothOf_0 rfl (lv_at hl 0 rfl) ?_
  refine lv_iload_n hx hb dX12_bothOf_1 rfl (lv_at hl 1 rfl) ?_
  refine kI.callV (As := [.int lv]) (rest := []) ⟨hx, hb, hml, hown, hg⟩ (hplain l o r f a g hI lv blv t (i) (m0) ob T Ws w0 (eS_fE hE hp0 (by decide) (by decide)) (by rw [ec22.symm]; exact hg0) hp2 (wQ_fE hE hp3 (by decide) (by decide)) hm1) (cwV 1 hg (kgV wt7_88 wt7_90 wp6_1 wt1_14 wt7_91) rfl rfl rfl (by decide +kernel) ⟨by dsimp only [rmD]; omega, by dsimp only [rmD]; omega⟩) hK hP hD hS hA mIs [] rfl (wr := []) rfl rfl rfl (fun i h => by cases h) 0 12 rfl rfl rfl hl.1 rfl (Nat.le_of_ble_eq_true rfl) dX12_bothOf_2 ⟨Nat.le_refl _, Nat.le_refl _⟩ (fun v3 u4 H locs hw2 hP hD hS => ?_)
  have hP : va_P D vwCl (mW K o r u4 a g) H := hP
  have hD : va_D A (mW K o r u4 a g) := hD
  have hI : mI u4 a := hw2.2.1
  have eE5 : fE [22, 24] f u4 := hw2.2.2.1
  have hE : fE [22, 24] f u4 := fE_tr hE eE5
  obtain ⟨gv6, egv6⟩ : ∃ z : Int32, z = u4 22 := ⟨_, rfl⟩
  have hg7 : gv6.toInt = 400 * (t : Int) + ((m0 : Nat) : Int) := by rw [egv6]; exact hw2.2.2.2.1
  obtain ⟨bq8, ebq8⟩ : ∃ z : Int32, z = u4 24 := ⟨_, rfl⟩
  have b9 : kb 0 bq8 1 := kb_eq ebq8 (fI_at hI.1 24 (by decide) (by decide))
  have hr10 : mTv lv cb (w0 Ws) bq8 v3 := by have w1 := hw2.2.2.2.2; rw [ecb.symm, ← ebq8] at w1; exact w1
  refine lv_istore_n (lv' := [(2, .int v3), (0, .ref o), (1, .int lv)]) hx hb dX12_bothOf_5 rfl hl (by decide) rfl (fun ls hl => ?_)
  have lp13 : ∀ (n14 : Nat) (i9 : Nat) (xv : eV) (F12 : Nat → Int32) (H : Heap) (locs : List Loc) (ls : Array Slot) (y11 : Int32), (ee ob T n14 d 9 i9 xv j v_) → (mI F12 a) → (fE [22, 24] f F12) → (kb 0 y11 1) → ((F12 22).toInt = 400 * (t : Int) + (i9 : Int)) → (mTv lv cb (xv Ws) (F12 24) y11) → va_P D vwCl (mW K o r F12 a g) H → va_D A (mW K o r F12 a g) → va_S A s.heap H locs → lv_has ls 4 [(2, .int y11), (0, .ref o), (1, .int lv)] → W p l e (rmD (4 * d + 14) 0 0) s m ([.ref o, .int lv] : List Value).toArray below meth c H locs 0 0 (kQi D (tysK K) (fun v (u : Nat → Int32) => kb 0 v 1 ∧ mI u a ∧ fE [22, 24] f u ∧ (u 22).toInt = 400 * (t : Int) + (j : Int) ∧ mTv lv (f 24) (v_ Ws) (u 24) v) (fun u => mW K o r u a g) A below ([.ref o, .int lv] : List Value).toArray s 0 0) (F0 m 6 ls []) := by
    intro n14
    induction n14 with
    | zero =>
      intro i9 xv F12  H locs ls y11 hmlp13 hI hE b15 hvlp13_0 hvlp13_1 hP hD hS hl
      exact (hmlp13 : False).elim
    | succ n14 ihlp13 =>
      intro i9 xv F12  H locs ls y11 hmlp13 hI hE b15 hvlp13_0 hvlp13_1 hP hD hS hl
      obtain ⟨gv16, egv16⟩ : ∃ z : Int32, z = F12 22 := ⟨_, rfl⟩
      have hg17 : gv16.toInt = 400 * (t : Int) + ((i9 : Nat) : Int) := by rw [egv16]; exact hvlp13_0
      obtain ⟨bq18, ebq18⟩ : ∃ z : Int32, z = F12 24 := ⟨_, rfl⟩
      have b19 : kb 0 bq18 1 := kb_eq ebq18 (fI_at hI.1 24 (by decide) (by decide))
      have hacc : mTv lv cb (xv Ws) bq18 y11 := by rw [ebq18]; exact hvlp13_1
      rcases ee_out hmlp13 with ⟨h1, hj, hvx⟩ | ⟨h1, mm, ww, ht, h6⟩
      · refine lv_aload_n hx hb dX12_bothOf_6 rfl (lv_at hl 1 rfl) ?_
        refine lv_bipush (v := 7) hx hb dX12_bothOf_7 (by decide) ?_
        refine kI.callV (As := [.int 7]) (rest := []) ⟨hx, hb, hml, hown, hg⟩ (m_passes0 l o r F12 a g hI 7 (kb_w kc_7 (by decide) (by decide)) t (i9) ob (eS_fE hE hp0 (by decide) (by decide)) (by rw [egv16.symm]; exact hg17)) (cwV 1 hg (kgV wt7_63 wt7_65 wp5_12 wt1_14 wt7_66) rfl rfl rfl (by decide +kernel) ⟨by dsimp only [rmD]; omega, by dsimp only [rmD]; omega⟩) hK hP hD hS hA mIs [] rfl (wr := []) rfl rfl rfl (fun i h => by cases h) 0 12 rfl rfl rfl hl.1 rfl (Nat.le_of_ble_eq_true rfl) dX12_bothOf_9 ⟨Nat.le_refl _, Nat.le_refl _⟩ (fun v21 u22 H locs hw20 hP hD hS => ?_)
        have hP : va_P D vwCl (mW K o r u22 a g) H := hP
        have hD : va_D A (mW K o r u22 a g) := hD
        have hI : mI u22 a := hw20.2.1
        have eE23 : fE [22] F12 u22 := hw20.2.2.1
        have hE : fE [22, 24] f u22 := fE_tr hE (fE_w (by decide) eE23)
        have hz24 := pass_n hw20.2.2.2 (tq_n hp2 (x := 7) (y := 2001) (by decide +kernel) (by decide +kernel) h1)
        refine k_top (z := 0) hz24.1 ?_
        obtain ⟨gv25, egv25⟩ : ∃ z : Int32, z = u22 22 := ⟨_, rfl⟩
        have hg26 : gv25.toInt = 400 * (t : Int) + ((i9 : Nat) : Int) := by rw [egv25]; exact hz24.2
        refine lv_if_eq (tgt := 50) hx hb dX12_bothOf_12 (by decide) (fun c27 => ?_) (fun c27 => ?_)
        · refine lv_iload_n hx hb dX12_bothOf_50 rfl (lv_at hl 0 rfl) ?_
          exact kI_ret (v := y11) hx hb hr hlocks (kb_bo b15) hK hS dX12_bothOf_51 u22 hP hD ⟨b15, hI, hE, (by rw [egv25.symm, hg26]; omega), (by show mTv lv (f 24) (v_ Ws) (u22 24) y11; rw [((eE23 24 (by decide)).trans ebq18.symm), ← ecb]; exact (by rw [hvx]; exact hacc))⟩
        · exact kb_nsame c27 kc_0 kc_0
      · have b28 : kb 0 gv16 2799 := kb_go (eS_fE hE hp0 (by decide) (by decide)) (mC_lt (eS_fE hE hp0 (by decide) (by decide)) (ne_0 (tq_y hp2 (x := 7) (y := 2001) (by decide +kernel) (by decide +kernel) h1) (by decide +kernel))) hg17
        refine lv_aload_n hx hb dX12_bothOf_6 rfl (lv_at hl 1 rfl) ?_
        refine lv_bipush (v := 7) hx hb dX12_bothOf_7 (by decide) ?_
        refine kI.callV (As := [.int 7]) (rest := []) ⟨hx, hb, hml, hown, hg⟩ (m_passes0 l o r F12 a g hI 7 (kb_w kc_7 (by decide) (by decide)) t (i9) ob (eS_fE hE hp0 (by decide) (by decide)) (by rw [egv16.symm]; exact hg17)) (cwV 1 hg (kgV wt7_63 wt7_65 wp5_12 wt1_14 wt7_66) rfl rfl rfl (by decide +kernel) ⟨by dsimp only [rmD]; omega, by dsimp only [rmD]; omega⟩) hK hP hD hS hA mIs [] rfl (wr := []) rfl rfl rfl (fun i h => by cases h) 0 12 rfl rfl rfl hl.1 rfl (Nat.le_of_ble_eq_true rfl) dX12_bothOf_9 ⟨Nat.le_refl _, Nat.le_refl _⟩ (fun v30 u31 H locs hw29 hP hD hS => ?_)
        have hP : va_P D vwCl (mW K o r u31 a g) H := hP
        have hD : va_D A (mW K o r u31 a g) := hD
        have hI : mI u31 a := hw29.2.1
        have eE32 : fE [22] F12 u31 := hw29.2.2.1
        have hE : fE [22, 24] f u31 := fE_tr hE (fE_w (by decide) eE32)
        have hz33 := pass_y hw29.2.2.2 (tq_y hp2 (x := 7) (y := 2001) (by decide +kernel) (by decide +kernel) h1)
        refine k_top (z := 1) hz33.1 ?_
        obtain ⟨gv34, egv34⟩ : ∃ z : Int32, z = u31 22 := ⟨_, rfl⟩
        have hg35 : gv34.toInt = 400 * (t : Int) + ((i9 + 1 : Nat) : Int) := by rw [egv34]; exact hz33.2
        refine lv_if_eq (tgt := 50) hx hb dX12_bothOf_12 (by decide) (fun c36 => ?_) (fun c36 => ?_)
        · exact kb_dj c36 kc_1 kc_0 (by decide)
        · refine lv_aload_n hx hb dX12_bothOf_15 rfl (lv_at hl 1 rfl) ?_
          refine lv_iload_n hx hb dX12_bothOf_16 rfl (lv_at hl 2 rfl) ?_
          refine lv_if_eq (tgt := 28) hx hb dX12_bothOf_17 (by decide) (fun c37 => ?_) (fun c37 => ?_)
          · have b38 : kb 0 lv 0 := kb_eq c37 kc_0
            refine lv_iconst (v := 0) hx hb dX12_bothOf_28 (by decide) ?_
            refine kI.callV (As := [.int 0]) (rest := []) ⟨hx, hb, hml, hown, hg⟩ (hplain l o r u31 a g hI 0 (kb_w kc_0 (by decide) (by decide)) t (i9 + 1) (mm) ob T Ws ww (eS_fE hE hp0 (by decide) (by decide)) (by rw [egv34.symm]; exact hg35) hp2 (wQ_fE hE hp3 (by decide) (by decide)) (eG_of ht)) (cwV 1 hg (kgV wt7_88 wt7_90 wp6_1 wt1_14 wt7_91) rfl rfl rfl (by decide +kernel) ⟨by dsimp only [rmD]; omega, by dsimp only [rmD]; omega⟩) hK hP hD hS hA mIs [] rfl (wr := []) rfl rfl rfl (fun i h => by cases h) 0 12 rfl rfl rfl hl.1 rfl (Nat.le_of_ble_eq_true rfl) dX12_bothOf_29 ⟨Nat.le_refl _, Nat.le_refl _⟩ (fun v40 u41 H locs hw39 hP hD hS => ?_)
            have hP : va_P D vwCl (mW K o r u41 a g) H := hP
            have hD : va_D A (mW K o r u41 a g) := hD
            have hI : mI u41 a := hw39.2.1
            have eE42 : fE [22, 24] u31 u41 := hw39.2.2.1
            have hE : fE [22, 24] f u41 := fE_tr hE eE42
            obtain ⟨gv43, egv43⟩ : ∃ z : Int32, z = u41 22 := ⟨_, rfl⟩
            have hg44 : gv43.toInt = 400 * (t : Int) + ((mm : Nat) : Int) := by rw [egv43]; exact hw39.2.2.2.1
            obtain ⟨bq45, ebq45⟩ : ∃ z : Int32, z = u41 24 := ⟨_, rfl⟩
            have b46 : kb 0 bq45 1 := kb_eq ebq45 (fI_at hI.1 24 (by decide) (by decide))
            have hr47 : mTv 0 bq18 (ww Ws) bq45 v40 := by have w1 := hw39.2.2.2.2; rw [((eE32 24 (by decide)).trans ebq18.symm), ← ebq45] at w1; exact w1
            refine lv_istore_n (lv' := [(3, .int v40), (2, .int y11), (0, .ref o), (1, .int lv)]) hx hb dX12_bothOf_32 rfl hl (by decide) rfl (fun ls hl => ?_)
            refine lv_iload_n hx hb dX12_bothOf_33 rfl (lv_at hl 1 rfl) ?_
            refine lv_if_eq (tgt := 45) hx hb dX12_bothOf_34 (by decide) (fun c48 => ?_) (fun c48 => ?_)
            · have b49 : kb 0 y11 0 := kb_eq c48 kc_0
              refine lv_iconst (v := 0) hx hb dX12_bothOf_45 (by decide) ?_
              refine lv_istore_n (lv' := [(2, .int 0), (3, .int v40), (0, .ref o), (1, .int lv)]) hx hb dX12_bothOf_46 rfl hl (by decide) rfl (fun ls hl => ?_)
              refine lv_goto (tgt := 6) hx hb dX12_bothOf_47 (by decide) ?_
              exact ihlp13 (mm) (anO xv ww) u41 _ _ _ 0 (h6) hI hE (kb_w kc_0 (by decide) (by decide)) (by rw [egv43.symm]; exact hg44) (by show mTv lv cb (anO xv ww Ws) (u41 24) 0; rw [ebq45.symm]; exact m_and hacc hr47 (by rw [if_neg (fun h => absurd (c37.symm.trans h.1) (by decide +kernel))]) (b01 b15) (by rw [if_pos c48]; exact c48.symm)) hP hD hS (lv_sub hl [0, 2, 3] rfl)
            · have b50 : kb 1 y11 1 := kr_nel c48 b15 kc_0 (by decide)
              refine lv_iload_n hx hb dX12_bothOf_37 rfl (lv_at hl 0 rfl) ?_
              refine lv_if_eq (tgt := 45) hx hb dX12_bothOf_38 (by decide) (fun c51 => ?_) (fun c51 => ?_)
              · have b52 : kb 0 v40 0 := kb_eq c51 kc_0
                refine lv_iconst (v := 0) hx hb dX12_bothOf_45 (by decide) ?_
                refine lv_istore_n (lv' := [(2, .int 0), (3, .int v40), (0, .ref o), (1, .int lv)]) hx hb dX12_bothOf_46 rfl hl (by decide) rfl (fun ls hl => ?_)
                refine lv_goto (tgt := 6) hx hb dX12_bothOf_47 (by decide) ?_
                exact ihlp13 (mm) (anO xv ww) u41 _ _ _ 0 (h6) hI hE (kb_w kc_0 (by decide) (by decide)) (by rw [egv43.symm]; exact hg44) (by show mTv lv cb (anO xv ww Ws) (u41 24) 0; rw [ebq45.symm]; exact m_and hacc hr47 (by rw [if_neg (fun h => absurd (c37.symm.trans h.1) (by decide +kernel))]) (b01 b15) (by rw [if_neg c48]; exact c51.symm)) hP hD hS (lv_sub hl [0, 2, 3] rfl)
              · have b53 : kb 1 v40 1 := kr_nel c51 hw39.1 kc_0 (by decide)
                refine lv_iconst (v := 1) hx hb dX12_bothOf_41 (by decide) ?_
                refine lv_goto (tgt := 46) hx hb dX12_bothOf_42 (by decide) ?_
                refine lv_istore_n (lv' := [(2, .int 1), (3, .int v40), (0, .ref o), (1, .int lv)]) hx hb dX12_bothOf_46 rfl hl (by decide) rfl (fun ls hl => ?_)
                refine lv_goto (tgt := 6) hx hb dX12_bothOf_47 (by decide) ?_
                exact ihlp13 (mm) (anO xv ww) u41 _ _ _ 1 (h6) hI hE (kb_w kc_1 (by decide) (by decide)) (by rw [egv43.symm]; exact hg44) (by show mTv lv cb (anO xv ww Ws) (u41 24) 1; rw [ebq45.symm]; exact m_and hacc hr47 (by rw [if_neg (fun h => absurd (c37.symm.trans h.1) (by decide +kernel))]) (b01 b15) (by rw [if_neg c48]; exact (kb_11 b53).symm)) hP hD hS (lv_sub hl [0, 2, 3] rfl)
          · have b54 : kb 1 lv 1 := kr_nel c37 blv kc_0 (by decide)
            refine lv_iload_n hx hb dX12_bothOf_20 rfl (lv_at hl 0 rfl) ?_
            refine lv_if_eq (tgt := 28) hx hb dX12_bothOf_21 (by decide) (fun c55 => ?_) (fun c55 => ?_)
            · have b56 : kb 0 y11 0 := kb_eq c55 kc_0
              refine lv_iconst (v := 0) hx hb dX12_bothOf_28 (by decide) ?_
              refine kI.callV (As := [.int 0]) (rest := []) ⟨hx, hb, hml, hown, hg⟩ (hplain l o r u31 a g hI 0 (kb_w kc_0 (by decide) (by decide)) t (i9 + 1) (mm) ob T Ws ww (eS_fE hE hp0 (by decide) (by decide)) (by rw [egv34.symm]; exact hg35) hp2 (wQ_fE hE hp3 (by decide) (by decide)) (eG_of ht)) (cwV 1 hg (kgV wt7_88 wt7_90 wp6_1 wt1_14 wt7_91) rfl rfl rfl (by decide +kernel) ⟨by dsimp only [rmD]; omega, by dsimp only [rmD]; omega⟩) hK hP hD hS hA mIs [] rfl (wr := []) rfl rfl rfl (fun i h => by cases h) 0 12 rfl rfl rfl hl.1 rfl (Nat.le_of_ble_eq_true rfl) dX12_bothOf_29 ⟨Nat.le_refl _, Nat.le_refl _⟩ (fun v58 u59 H locs hw57 hP hD hS => ?_)
              have hP : va_P D vwCl (mW K o r u59 a g) H := hP
              have hD : va_D A (mW K o r u59 a g) := hD
              have hI : mI u59 a := hw57.2.1
              have eE60 : fE [22, 24] u31 u59 := hw57.2.2.1
              have hE : fE [22, 24] f u59 := fE_tr hE eE60
              obtain ⟨gv61, egv61⟩ : ∃ z : Int32, z = u59 22 := ⟨_, rfl⟩
              have hg62 : gv61.toInt = 400 * (t : Int) + ((mm : Nat) : Int) := by rw [egv61]; exact hw57.2.2.2.1
              obtain ⟨bq63, ebq63⟩ : ∃ z : Int32, z = u59 24 := ⟨_, rfl⟩
              have b64 : kb 0 bq63 1 := kb_eq ebq63 (fI_at hI.1 24 (by decide) (by decide))
              have hr65 : mTv 0 bq18 (ww Ws) bq63 v58 := by have w1 := hw57.2.2.2.2; rw [((eE32 24 (by decide)).trans ebq18.symm), ← ebq63] at w1; exact w1
              refine lv_istore_n (lv' := [(3, .int v58), (2, .int y11), (0, .ref o), (1, .int lv)]) hx hb dX12_bothOf_32 rfl hl (by decide) rfl (fun ls hl => ?_)
              refine lv_iload_n hx hb dX12_bothOf_33 rfl (lv_at hl 1 rfl) ?_
              refine lv_if_eq (tgt := 45) hx hb dX12_bothOf_34 (by decide) (fun c66 => ?_) (fun c66 => ?_)
              · refine lv_iconst (v := 0) hx hb dX12_bothOf_45 (by decide) ?_
                refine lv_istore_n (lv' := [(2, .int 0), (3, .int v58), (0, .ref o), (1, .int lv)]) hx hb dX12_bothOf_46 rfl hl (by decide) rfl (fun ls hl => ?_)
                refine lv_goto (tgt := 6) hx hb dX12_bothOf_47 (by decide) ?_
                exact ihlp13 (mm) (anO xv ww) u59 _ _ _ 0 (h6) hI hE (kb_w kc_0 (by decide) (by decide)) (by rw [egv61.symm]; exact hg62) (by show mTv lv cb (anO xv ww Ws) (u59 24) 0; rw [ebq63.symm]; exact m_and hacc hr65 (by rw [if_neg (fun h => h.2 c55)]) (b01 b15) (by rw [if_pos c66]; exact c66.symm)) hP hD hS (lv_sub hl [0, 2, 3] rfl)
              · exact kb_nsame c66 b56 kc_0
            · have b67 : kb 1 y11 1 := kr_nel c55 b15 kc_0 (by decide)
              refine lv_iconst (v := 1) hx hb dX12_bothOf_24 (by decide) ?_
              refine lv_goto (tgt := 29) hx hb dX12_bothOf_25 (by decide) ?_
              refine kI.callV (As := [.int 1]) (rest := []) ⟨hx, hb, hml, hown, hg⟩ (hplain l o r u31 a g hI 1 (kb_w kc_1 (by decide) (by decide)) t (i9 + 1) (mm) ob T Ws ww (eS_fE hE hp0 (by decide) (by decide)) (by rw [egv34.symm]; exact hg35) hp2 (wQ_fE hE hp3 (by decide) (by decide)) (eG_of ht)) (cwV 1 hg (kgV wt7_88 wt7_90 wp6_1 wt1_14 wt7_91) rfl rfl rfl (by decide +kernel) ⟨by dsimp only [rmD]; omega, by dsimp only [rmD]; omega⟩) hK hP hD hS hA mIs [] rfl (wr := []) rfl rfl rfl (fun i h => by cases h) 0 12 rfl rfl rfl hl.1 rfl (Nat.le_of_ble_eq_true rfl) dX12_bothOf_29 ⟨Nat.le_refl _, Nat.le_refl _⟩ (fun v69 u70 H locs hw68 hP hD hS => ?_)
              have hP : va_P D vwCl (mW K o r u70 a g) H := hP
              have hD : va_D A (mW K o r u70 a g) := hD
              have hI : mI u70 a := hw68.2.1
              have eE71 : fE [22, 24] u31 u70 := hw68.2.2.1
              have hE : fE [22, 24] f u70 := fE_tr hE eE71
              obtain ⟨gv72, egv72⟩ : ∃ z : Int32, z = u70 22 := ⟨_, rfl⟩
              have hg73 : gv72.toInt = 400 * (t : Int) + ((mm : Nat) : Int) := by rw [egv72]; exact hw68.2.2.2.1
              obtain ⟨bq74, ebq74⟩ : ∃ z : Int32, z = u70 24 := ⟨_, rfl⟩
              have b75 : kb 0 bq74 1 := kb_eq ebq74 (fI_at hI.1 24 (by decide) (by decide))
              have hr76 : mTv 1 bq18 (ww Ws) bq74 v69 := by have w1 := hw68.2.2.2.2; rw [((eE32 24 (by decide)).trans ebq18.symm), ← ebq74] at w1; exact w1
              refine lv_istore_n (lv' := [(3, .int v69), (2, .int y11), (0, .ref o), (1, .int lv)]) hx hb dX12_bothOf_32 rfl hl (by decide) rfl (fun ls hl => ?_)
              refine lv_iload_n hx hb dX12_bothOf_33 rfl (lv_at hl 1 rfl) ?_
              refine lv_if_eq (tgt := 45) hx hb dX12_bothOf_34 (by decide) (fun c77 => ?_) (fun c77 => ?_)
              · exact kb_dj c77 b67 kc_0 (by decide)
              · refine lv_iload_n hx hb dX12_bothOf_37 rfl (lv_at hl 0 rfl) ?_
                refine lv_if_eq (tgt := 45) hx hb dX12_bothOf_38 (by decide) (fun c78 => ?_) (fun c78 => ?_)
                · have b79 : kb 0 v69 0 := kb_eq c78 kc_0
                  refine lv_iconst (v := 0) hx hb dX12_bothOf_45 (by decide) ?_
                  refine lv_istore_n (lv' := [(2, .int 0), (3, .int v69), (0, .ref o), (1, .int lv)]) hx hb dX12_bothOf_46 rfl hl (by decide) rfl (fun ls hl => ?_)
                  refine lv_goto (tgt := 6) hx hb dX12_bothOf_47 (by decide) ?_
                  exact ihlp13 (mm) (anO xv ww) u70 _ _ _ 0 (h6) hI hE (kb_w kc_0 (by decide) (by decide)) (by rw [egv72.symm]; exact hg73) (by show mTv lv cb (anO xv ww Ws) (u70 24) 0; rw [ebq74.symm]; exact m_and hacc hr76 (by rw [if_pos ⟨kb_11 b54, c55⟩]) (b01 b15) (by rw [if_neg c77]; exact c78.symm)) hP hD hS (lv_sub hl [0, 2, 3] rfl)
                · have b80 : kb 1 v69 1 := kr_nel c78 hw68.1 kc_0 (by decide)
                  refine lv_iconst (v := 1) hx hb dX12_bothOf_41 (by decide) ?_
                  refine lv_goto (tgt := 46) hx hb dX12_bothOf_42 (by decide) ?_
                  refine lv_istore_n (lv' := [(2, .int 1), (3, .int v69), (0, .ref o), (1, .int lv)]) hx hb dX12_bothOf_46 rfl hl (by decide) rfl (fun ls hl => ?_)
                  refine lv_goto (tgt := 6) hx hb dX12_bothOf_47 (by decide) ?_
                  exact ihlp13 (mm) (anO xv ww) u70 _ _ _ 1 (h6) hI hE (kb_w kc_1 (by decide) (by decide)) (by rw [egv72.symm]; exact hg73) (by show mTv lv cb (anO xv ww Ws) (u70 24) 1; rw [ebq74.symm]; exact m_and hacc hr76 (by rw [if_pos ⟨kb_11 b54, c55⟩]) (b01 b15) (by rw [if_neg c77]; exact (kb_11 b80).symm)) hP hD hS (lv_sub hl [0, 2, 3] rfl)
  exact lp13 (n0) (m0) w0 u4 _ _ _ v3 (hn0) hI hE hw2.1 (by rw [egv6.symm]; exact hg7) (by show mTv lv cb (w0 Ws) (u4 24) _; rw [ebq8.symm]; exact hr10) hP hD hS (lv_sub hl [0, 1, 2] rfl)
set_option maxHeartbeats 4000000 in
set_option maxRecDepth 100000 in
theorem n_testOf (d : Nat) (hboth : nBoth d) (l : Launch) {D : va_G} {K : Nat → ClassId} (o : Nat) (r : Nat → Nat) (f : Nat → Int32) (a : Nat → Nat → Int32) (g : Nat → Int64) (hI : mI f a) (lv : Int32) (blv : kb 0 lv 1) (t i j : Nat) (ob : Bool) (T : Nat → Int32) (Ws : Nat → Int) (v_ : eV) (hp0 : eS f a t ob) (hp1 : (f 22).toInt = 400 * (t : Int) + (i : Int)) (hp2 : tQ (a 2) t T) (hp3 : wQ ob Ws f a) (hp4 : eG ob T d 3 i e1 j v_) : kI l yX12_testOf (Cond.code yX12_testOf cX12_testOf 4 (some .boolean) :: kG) (rmD (4 * d + 15) 0 0) D (tysK K) [.ref o, .int lv] (mW K o r f a g) (fun v (u : Nat → Int32) => kb 0 v 1 ∧ mI u a ∧ fE [22, 24] f u ∧ (u 22).toInt = 400 * (t : Int) + (j : Int) ∧ mTv lv (f 24) (v_ Ws) (u 24) v) (fun u => mW K o r u a g) 0 0 := by
  refine kI.of (cc := cX12_testOf) (maxL := 4) (ret := (some .boolean)) (by decide) rfl (Nat.le_of_ble_eq_true rfl) ?_
  intro p e s m below meth c A hx hb hr hml hown hts hlocks hnm hK hP hD hS hA ls hl
  have hE : fE [22, 24] f f := fE_rf
  have hg : ∀ w ∈ kG, w.before _ s = true := fun w h => hts w (List.mem_cons_of_mem _ h)
  have hown : s.vm.findClass RX12 = some m.cls := hown
  have hl : lv_has ls 4 [(0, .ref o), (1, .int lv)] := hl
  obtain ⟨c22, ec22⟩ : ∃ z : Int32, z = f 22 := ⟨_, rfl⟩
  have hg0 : c22.toInt = 400 * (t : Int) + (i : Int) := by rw [ec22]; exact hp1
  obtain ⟨cb, ecb⟩ : ∃ z : Int32, z = f 24 := ⟨_, rfl⟩
  have b1 : kb 0 cb 1 := kb_eq ecb (fI_at hI.1 24 (by decide) (by decide))
  obtain ⟨m0, w0, hm1, n0, hn0⟩ := eG_out hp4
  refine lv_aload_n hx hb dX12_testOf_0 rfl (lv_at hl 0 rfl) ?_
  refine lv_iload_n hx hb dX12_testOf_1 rfl (lv_at hl 1 rfl) ?_
  refine kI.callV (As := [.int lv]) (rest := []) ⟨hx, hb, hml, hown, hg⟩ (hboth l o r f a g hI lv blv t (i) (m0) ob T Ws w0 (eS_fE hE hp0 (by decide) (by decide)) (by rw [ec22.symm]; exact hg0) hp2 (wQ_fE hE hp3 (by decide) (by decide)) hm1) (cwV 1 hg (kgV wt7_84 wt7_86 wp6_0 wt1_14 wt7_87) rfl rfl rfl (by decide +kernel) ⟨by dsimp only [rmD]; omega, by dsimp only [rmD]; omega⟩) hK hP hD hS hA mIs [] rfl (wr := []) rfl rfl rfl (fun i h => by cases h) 0 12 rfl rfl rfl hl.1 rfl (Nat.le_of_ble_eq_true rfl) dX12_testOf_2 ⟨Nat.le_refl _, Nat.le_refl _⟩ (fun v3 u4 H locs hw2 hP hD hS => ?_)
  have hP : va_P D vwCl (mW K o r u4 a g) H := hP
  have hD : va_D A (mW K o r u4 a g) := hD
  have hI : mI u4 a := hw2.2.1
  have eE5 : fE [22, 24] f u4 := hw2.2.2.1
  have hE : fE [22, 24] f u4 := fE_tr hE eE5
  obtain ⟨gv6, egv6⟩ : ∃ z : Int32, z = u4 22 := ⟨_, rfl⟩
  have hg7 : gv6.toInt = 400 * (t : Int) + ((m0 : Nat) : Int) := by rw [egv6]; exact hw2.2.2.2.1
  obtain ⟨bq8, ebq8⟩ : ∃ z : Int32, z = u4 24 := ⟨_, rfl⟩
  have b9 : kb 0 bq8 1 := kb_eq ebq8 (fI_at hI.1 24 (by decide) (by decide))
  have hr10 : mTv lv cb (w0 Ws) bq8 v3 := by have w1 := hw2.2.2.2.2; rw [ecb.symm, ← ebq8] at w1; exact w1
  refine lv_istore_n (lv' := [(2, .int v3), (0, .ref o), (1, .int lv)]) hx hb dX12_testOf_5 rfl hl (by decide) rfl (fun ls hl => ?_)
  have lp13 : ∀ (n14 : Nat) (i8 : Nat) (xv : eV) (F12 : Nat → Int32) (H : Heap) (locs : List Loc) (ls : Array Slot) (y11 : Int32), (ee ob T n14 d 8 i8 xv j v_) → (mI F12 a) → (fE [22, 24] f F12) → (kb 0 y11 1) → ((F12 22).toInt = 400 * (t : Int) + (i8 : Int)) → (mTv lv cb (xv Ws) (F12 24) y11) → va_P D vwCl (mW K o r F12 a g) H → va_D A (mW K o r F12 a g) → va_S A s.heap H locs → lv_has ls 4 [(2, .int y11), (0, .ref o), (1, .int lv)] → W p l e (rmD (4 * d + 15) 0 0) s m ([.ref o, .int lv] : List Value).toArray below meth c H locs 0 0 (kQi D (tysK K) (fun v (u : Nat → Int32) => kb 0 v 1 ∧ mI u a ∧ fE [22, 24] f u ∧ (u 22).toInt = 400 * (t : Int) + (j : Int) ∧ mTv lv (f 24) (v_ Ws) (u 24) v) (fun u => mW K o r u a g) A below ([.ref o, .int lv] : List Value).toArray s 0 0) (F0 m 6 ls []) := by
    intro n14
    induction n14 with
    | zero =>
      intro i8 xv F12  H locs ls y11 hmlp13 hI hE b15 hvlp13_0 hvlp13_1 hP hD hS hl
      exact (hmlp13 : False).elim
    | succ n14 ihlp13 =>
      intro i8 xv F12  H locs ls y11 hmlp13 hI hE b15 hvlp13_0 hvlp13_1 hP hD hS hl
      obtain ⟨gv16, egv16⟩ : ∃ z : Int32, z = F12 22 := ⟨_, rfl⟩
      have hg17 : gv16.toInt = 400 * (t : Int) + ((i8 : Nat) : Int) := by rw [egv16]; exact hvlp13_0
      obtain ⟨bq18, ebq18⟩ : ∃ z : Int32, z = F12 24 := ⟨_, rfl⟩
      have b19 : kb 0 bq18 1 := kb_eq ebq18 (fI_at hI.1 24 (by decide) (by decide))
      have hacc : mTv lv cb (xv Ws) bq18 y11 := by rw [ebq18]; exact hvlp13_1
      rcases ee_out hmlp13 with ⟨h1, hj, hvx⟩ | ⟨h1, mm, ww, ht, h6⟩
      · refine lv_aload_n hx hb dX12_testOf_6 rfl (lv_at hl 1 rfl) ?_
        refine lv_bipush (v := 6) hx hb dX12_testOf_7 (by decide) ?_
        refine kI.callV (As := [.int 6]) (rest := []) ⟨hx, hb, hml, hown, hg⟩ (m_passes0 l o r F12 a g hI 6 (kb_w kc_6 (by decide) (by decide)) t (i8) ob (eS_fE hE hp0 (by decide) (by decide)) (by rw [egv16.symm]; exact hg17)) (cwV 1 hg (kgV wt7_63 wt7_65 wp5_12 wt1_14 wt7_66) rfl rfl rfl (by decide +kernel) ⟨by dsimp only [rmD]; omega, by dsimp only [rmD]; omega⟩) hK hP hD hS hA mIs [] rfl (wr := []) rfl rfl rfl (fun i h => by cases h) 0 12 rfl rfl rfl hl.1 rfl (Nat.le_of_ble_eq_true rfl) dX12_testOf_9 ⟨Nat.le_refl _, Nat.le_refl _⟩ (fun v21 u22 H locs hw20 hP hD hS => ?_)
        have hP : va_P D vwCl (mW K o r u22 a g) H := hP
        have hD : va_D A (mW K o r u22 a g) := hD
        have hI : mI u22 a := hw20.2.1
        have eE23 : fE [22] F12 u22 := hw20.2.2.1
        have hE : fE [22, 24] f u22 := fE_tr hE (fE_w (by decide) eE23)
        have hz24 := pass_n hw20.2.2.2 (tq_n hp2 (x := 6) (y := 2000) (by decide +kernel) (by decide +kernel) h1)
        refine k_top (z := 0) hz24.1 ?_
        obtain ⟨gv25, egv25⟩ : ∃ z : Int32, z = u22 22 := ⟨_, rfl⟩
        have hg26 : gv25.toInt = 400 * (t : Int) + ((i8 : Nat) : Int) := by rw [egv25]; exact hz24.2
        refine lv_if_eq (tgt := 50) hx hb dX12_testOf_12 (by decide) (fun c27 => ?_) (fun c27 => ?_)
        · refine lv_iload_n hx hb dX12_testOf_50 rfl (lv_at hl 0 rfl) ?_
          exact kI_ret (v := y11) hx hb hr hlocks (kb_bo b15) hK hS dX12_testOf_51 u22 hP hD ⟨b15, hI, hE, (by rw [egv25.symm, hg26]; omega), (by show mTv lv (f 24) (v_ Ws) (u22 24) y11; rw [((eE23 24 (by decide)).trans ebq18.symm), ← ecb]; exact (by rw [hvx]; exact hacc))⟩
        · exact kb_nsame c27 kc_0 kc_0
      · have b28 : kb 0 gv16 2799 := kb_go (eS_fE hE hp0 (by decide) (by decide)) (mC_lt (eS_fE hE hp0 (by decide) (by decide)) (ne_0 (tq_y hp2 (x := 6) (y := 2000) (by decide +kernel) (by decide +kernel) h1) (by decide +kernel))) hg17
        refine lv_aload_n hx hb dX12_testOf_6 rfl (lv_at hl 1 rfl) ?_
        refine lv_bipush (v := 6) hx hb dX12_testOf_7 (by decide) ?_
        refine kI.callV (As := [.int 6]) (rest := []) ⟨hx, hb, hml, hown, hg⟩ (m_passes0 l o r F12 a g hI 6 (kb_w kc_6 (by decide) (by decide)) t (i8) ob (eS_fE hE hp0 (by decide) (by decide)) (by rw [egv16.symm]; exact hg17)) (cwV 1 hg (kgV wt7_63 wt7_65 wp5_12 wt1_14 wt7_66) rfl rfl rfl (by decide +kernel) ⟨by dsimp only [rmD]; omega, by dsimp only [rmD]; omega⟩) hK hP hD hS hA mIs [] rfl (wr := []) rfl rfl rfl (fun i h => by cases h) 0 12 rfl rfl rfl hl.1 rfl (Nat.le_of_ble_eq_true rfl) dX12_testOf_9 ⟨Nat.le_refl _, Nat.le_refl _⟩ (fun v30 u31 H locs hw29 hP hD hS => ?_)
        have hP : va_P D vwCl (mW K o r u31 a g) H := hP
        have hD : va_D A (mW K o r u31 a g) := hD
        have hI : mI u31 a := hw29.2.1
        have eE32 : fE [22] F12 u31 := hw29.2.2.1
        have hE : fE [22, 24] f u31 := fE_tr hE (fE_w (by decide) eE32)
        have hz33 := pass_y hw29.2.2.2 (tq_y hp2 (x := 6) (y := 2000) (by decide +kernel) (by decide +kernel) h1)
        refine k_top (z := 1) hz33.1 ?_
        obtain ⟨gv34, egv34⟩ : ∃ z : Int32, z = u31 22 := ⟨_, rfl⟩
        have hg35 : gv34.toInt = 400 * (t : Int) + ((i8 + 1 : Nat) : Int) := by rw [egv34]; exact hz33.2
        refine lv_if_eq (tgt := 50) hx hb dX12_testOf_12 (by decide) (fun c36 => ?_) (fun c36 => ?_)
        · exact kb_dj c36 kc_1 kc_0 (by decide)
        · refine lv_aload_n hx hb dX12_testOf_15 rfl (lv_at hl 1 rfl) ?_
          refine lv_iload_n hx hb dX12_testOf_16 rfl (lv_at hl 2 rfl) ?_
          refine lv_if_eq (tgt := 28) hx hb dX12_testOf_17 (by decide) (fun c37 => ?_) (fun c37 => ?_)
          · have b38 : kb 0 lv 0 := kb_eq c37 kc_0
            refine lv_iconst (v := 0) hx hb dX12_testOf_28 (by decide) ?_
            refine kI.callV (As := [.int 0]) (rest := []) ⟨hx, hb, hml, hown, hg⟩ (hboth l o r u31 a g hI 0 (kb_w kc_0 (by decide) (by decide)) t (i8 + 1) (mm) ob T Ws ww (eS_fE hE hp0 (by decide) (by decide)) (by rw [egv34.symm]; exact hg35) hp2 (wQ_fE hE hp3 (by decide) (by decide)) (eG_of ht)) (cwV 1 hg (kgV wt7_84 wt7_86 wp6_0 wt1_14 wt7_87) rfl rfl rfl (by decide +kernel) ⟨by dsimp only [rmD]; omega, by dsimp only [rmD]; omega⟩) hK hP hD hS hA mIs [] rfl (wr := []) rfl rfl rfl (fun i h => by cases h) 0 12 rfl rfl rfl hl.1 rfl (Nat.le_of_ble_eq_true rfl) dX12_testOf_29 ⟨Nat.le_refl _, Nat.le_refl _⟩ (fun v40 u41 H locs hw39 hP hD hS => ?_)
            have hP : va_P D vwCl (mW K o r u41 a g) H := hP
            have hD : va_D A (mW K o r u41 a g) := hD
            have hI : mI u41 a := hw39.2.1
            have eE42 : fE [22, 24] u31 u41 := hw39.2.2.1
            have hE : fE [22, 24] f u41 := fE_tr hE eE42
            obtain ⟨gv43, egv43⟩ : ∃ z : Int32, z = u41 22 := ⟨_, rfl⟩
            have hg44 : gv43.toInt = 400 * (t : Int) + ((mm : Nat) : Int) := by rw [egv43]; exact hw39.2.2.2.1
            obtain ⟨bq45, ebq45⟩ : ∃ z : Int32, z = u41 24 := ⟨_, rfl⟩
            have b46 : kb 0 bq45 1 := kb_eq ebq45 (fI_at hI.1 24 (by decide) (by decide))
            have hr47 : mTv 0 bq18 (ww Ws) bq45 v40 := by have w1 := hw39.2.2.2.2; rw [((eE32 24 (by decide)).trans ebq18.symm), ← ebq45] at w1; exact w1
            refine lv_istore_n (lv' := [(3, .int v40), (2, .int y11), (0, .ref o), (1, .int lv)]) hx hb dX12_testOf_32 rfl hl (by decide) rfl (fun ls hl => ?_)
            refine lv_iload_n hx hb dX12_testOf_33 rfl (lv_at hl 1 rfl) ?_
            refine lv_if_ne (tgt := 41) hx hb dX12_testOf_34 (by decide) (fun c48 => ?_) (fun c48 => ?_)
            · have b49 : kb 1 y11 1 := kr_nel c48 b15 kc_0 (by decide)
              refine lv_iconst (v := 1) hx hb dX12_testOf_41 (by decide) ?_
              refine lv_goto (tgt := 46) hx hb dX12_testOf_42 (by decide) ?_
              refine lv_istore_n (lv' := [(2, .int 1), (3, .int v40), (0, .ref o), (1, .int lv)]) hx hb dX12_testOf_46 rfl hl (by decide) rfl (fun ls hl => ?_)
              refine lv_goto (tgt := 6) hx hb dX12_testOf_47 (by decide) ?_
              exact ihlp13 (mm) (orO xv ww) u41 _ _ _ 1 (h6) hI hE (kb_w kc_1 (by decide) (by decide)) (by rw [egv43.symm]; exact hg44) (by show mTv lv cb (orO xv ww Ws) (u41 24) 1; rw [ebq45.symm]; exact m_or hacc hr47 (by rw [if_neg (fun h => absurd (c37.symm.trans h.1) (by decide +kernel))]) (b01 b15) (by rw [if_neg c48]; exact (kb_11 b49).symm)) hP hD hS (lv_sub hl [0, 2, 3] rfl)
            · have b50 : kb 0 y11 0 := kb_eq c48 kc_0
              refine lv_iload_n hx hb dX12_testOf_37 rfl (lv_at hl 0 rfl) ?_
              refine lv_if_eq (tgt := 45) hx hb dX12_testOf_38 (by decide) (fun c51 => ?_) (fun c51 => ?_)
              · have b52 : kb 0 v40 0 := kb_eq c51 kc_0
                refine lv_iconst (v := 0) hx hb dX12_testOf_45 (by decide) ?_
                refine lv_istore_n (lv' := [(2, .int 0), (3, .int v40), (0, .ref o), (1, .int lv)]) hx hb dX12_testOf_46 rfl hl (by decide) rfl (fun ls hl => ?_)
                refine lv_goto (tgt := 6) hx hb dX12_testOf_47 (by decide) ?_
                exact ihlp13 (mm) (orO xv ww) u41 _ _ _ 0 (h6) hI hE (kb_w kc_0 (by decide) (by decide)) (by rw [egv43.symm]; exact hg44) (by show mTv lv cb (orO xv ww Ws) (u41 24) 0; rw [ebq45.symm]; exact m_or hacc hr47 (by rw [if_neg (fun h => absurd (c37.symm.trans h.1) (by decide +kernel))]) (b01 b15) (by rw [if_pos c48]; exact c51.symm)) hP hD hS (lv_sub hl [0, 2, 3] rfl)
              · have b53 : kb 1 v40 1 := kr_nel c51 hw39.1 kc_0 (by decide)
                refine lv_iconst (v := 1) hx hb dX12_testOf_41 (by decide) ?_
                refine lv_goto (tgt := 46) hx hb dX12_testOf_42 (by decide) ?_
                refine lv_istore_n (lv' := [(2, .int 1), (3, .int v40), (0, .ref o), (1, .int lv)]) hx hb dX12_testOf_46 rfl hl (by decide) rfl (fun ls hl => ?_)
                refine lv_goto (tgt := 6) hx hb dX12_testOf_47 (by decide) ?_
                exact ihlp13 (mm) (orO xv ww) u41 _ _ _ 1 (h6) hI hE (kb_w kc_1 (by decide) (by decide)) (by rw [egv43.symm]; exact hg44) (by show mTv lv cb (orO xv ww Ws) (u41 24) 1; rw [ebq45.symm]; exact m_or hacc hr47 (by rw [if_neg (fun h => absurd (c37.symm.trans h.1) (by decide +kernel))]) (b01 b15) (by rw [if_pos c48]; exact (kb_11 b53).symm)) hP hD hS (lv_sub hl [0, 2, 3] rfl)
          · have b54 : kb 1 lv 1 := kr_nel c37 blv kc_0 (by decide)
            refine lv_iload_n hx hb dX12_testOf_20 rfl (lv_at hl 0 rfl) ?_
            refine lv_if_ne (tgt := 28) hx hb dX12_testOf_21 (by decide) (fun c55 => ?_) (fun c55 => ?_)
            · have b56 : kb 1 y11 1 := kr_nel c55 b15 kc_0 (by decide)
              refine lv_iconst (v := 0) hx hb dX12_testOf_28 (by decide) ?_
              refine kI.callV (As := [.int 0]) (rest := []) ⟨hx, hb, hml, hown, hg⟩ (hboth l o r u31 a g hI 0 (kb_w kc_0 (by decide) (by decide)) t (i8 + 1) (mm) ob T Ws ww (eS_fE hE hp0 (by decide) (by decide)) (by rw [egv34.symm]; exact hg35) hp2 (wQ_fE hE hp3 (by decide) (by decide)) (eG_of ht)) (cwV 1 hg (kgV wt7_84 wt7_86 wp6_0 wt1_14 wt7_87) rfl rfl rfl (by decide +kernel) ⟨by dsimp only [rmD]; omega, by dsimp only [rmD]; omega⟩) hK hP hD hS hA mIs [] rfl (wr := []) rfl rfl rfl (fun i h => by cases h) 0 12 rfl rfl rfl hl.1 rfl (Nat.le_of_ble_eq_true rfl) dX12_testOf_29 ⟨Nat.le_refl _, Nat.le_refl _⟩ (fun v58 u59 H locs hw57 hP hD hS => ?_)
              have hP : va_P D vwCl (mW K o r u59 a g) H := hP
              have hD : va_D A (mW K o r u59 a g) := hD
              have hI : mI u59 a := hw57.2.1
              have eE60 : fE [22, 24] u31 u59 := hw57.2.2.1
              have hE : fE [22, 24] f u59 := fE_tr hE eE60
              obtain ⟨gv61, egv61⟩ : ∃ z : Int32, z = u59 22 := ⟨_, rfl⟩
              have hg62 : gv61.toInt = 400 * (t : Int) + ((mm : Nat) : Int) := by rw [egv61]; exact hw57.2.2.2.1
              obtain ⟨bq63, ebq63⟩ : ∃ z : Int32, z = u59 24 := ⟨_, rfl⟩
              have b64 : kb 0 bq63 1 := kb_eq ebq63 (fI_at hI.1 24 (by decide) (by decide))
              have hr65 : mTv 0 bq18 (ww Ws) bq63 v58 := by have w1 := hw57.2.2.2.2; rw [((eE32 24 (by decide)).trans ebq18.symm), ← ebq63] at w1; exact w1
              refine lv_istore_n (lv' := [(3, .int v58), (2, .int y11), (0, .ref o), (1, .int lv)]) hx hb dX12_testOf_32 rfl hl (by decide) rfl (fun ls hl => ?_)
              refine lv_iload_n hx hb dX12_testOf_33 rfl (lv_at hl 1 rfl) ?_
              refine lv_if_ne (tgt := 41) hx hb dX12_testOf_34 (by decide) (fun c66 => ?_) (fun c66 => ?_)
              · refine lv_iconst (v := 1) hx hb dX12_testOf_41 (by decide) ?_
                refine lv_goto (tgt := 46) hx hb dX12_testOf_42 (by decide) ?_
                refine lv_istore_n (lv' := [(2, .int 1), (3, .int v58), (0, .ref o), (1, .int lv)]) hx hb dX12_testOf_46 rfl hl (by decide) rfl (fun ls hl => ?_)
                refine lv_goto (tgt := 6) hx hb dX12_testOf_47 (by decide) ?_
                exact ihlp13 (mm) (orO xv ww) u59 _ _ _ 1 (h6) hI hE (kb_w kc_1 (by decide) (by decide)) (by rw [egv61.symm]; exact hg62) (by show mTv lv cb (orO xv ww Ws) (u59 24) 1; rw [ebq63.symm]; exact m_or hacc hr65 (by rw [if_neg (fun h => c55 h.2)]) (b01 b15) (by rw [if_neg c66]; exact (kb_11 b56).symm)) hP hD hS (lv_sub hl [0, 2, 3] rfl)
              · exact kb_dj c66 b56 kc_0 (by decide)
            · have b67 : kb 0 y11 0 := kb_eq c55 kc_0
              refine lv_iconst (v := 1) hx hb dX12_testOf_24 (by decide) ?_
              refine lv_goto (tgt := 29) hx hb dX12_testOf_25 (by decide) ?_
              refine kI.callV (As := [.int 1]) (rest := []) ⟨hx, hb, hml, hown, hg⟩ (hboth l o r u31 a g hI 1 (kb_w kc_1 (by decide) (by decide)) t (i8 + 1) (mm) ob T Ws ww (eS_fE hE hp0 (by decide) (by decide)) (by rw [egv34.symm]; exact hg35) hp2 (wQ_fE hE hp3 (by decide) (by decide)) (eG_of ht)) (cwV 1 hg (kgV wt7_84 wt7_86 wp6_0 wt1_14 wt7_87) rfl rfl rfl (by decide +kernel) ⟨by dsimp only [rmD]; omega, by dsimp only [rmD]; omega⟩) hK hP hD hS hA mIs [] rfl (wr := []) rfl rfl rfl (fun i h => by cases h) 0 12 rfl rfl rfl hl.1 rfl (Nat.le_of_ble_eq_true rfl) dX12_testOf_29 ⟨Nat.le_refl _, Nat.le_refl _⟩ (fun v69 u70 H locs hw68 hP hD hS => ?_)
              have hP : va_P D vwCl (mW K o r u70 a g) H := hP
              have hD : va_D A (mW K o r u70 a g) := hD
              have hI : mI u70 a := hw68.2.1
              have eE71 : fE [22, 24] u31 u70 := hw68.2.2.1
              have hE : fE [22, 24] f u70 := fE_tr hE eE71
              obtain ⟨gv72, egv72⟩ : ∃ z : Int32, z = u70 22 := ⟨_, rfl⟩
              have hg73 : gv72.toInt = 400 * (t : Int) + ((mm : Nat) : Int) := by rw [egv72]; exact hw68.2.2.2.1
              obtain ⟨bq74, ebq74⟩ : ∃ z : Int32, z = u70 24 := ⟨_, rfl⟩
              have b75 : kb 0 bq74 1 := kb_eq ebq74 (fI_at hI.1 24 (by decide) (by decide))
              have hr76 : mTv 1 bq18 (ww Ws) bq74 v69 := by have w1 := hw68.2.2.2.2; rw [((eE32 24 (by decide)).trans ebq18.symm), ← ebq74] at w1; exact w1
              refine lv_istore_n (lv' := [(3, .int v69), (2, .int y11), (0, .ref o), (1, .int lv)]) hx hb dX12_testOf_32 rfl hl (by decide) rfl (fun ls hl => ?_)
              refine lv_iload_n hx hb dX12_testOf_33 rfl (lv_at hl 1 rfl) ?_
              refine lv_if_ne (tgt := 41) hx hb dX12_testOf_34 (by decide) (fun c77 => ?_) (fun c77 => ?_)
              · exact kb_nsame c77 b67 kc_0
              · refine lv_iload_n hx hb dX12_testOf_37 rfl (lv_at hl 0 rfl) ?_
                refine lv_if_eq (tgt := 45) hx hb dX12_testOf_38 (by decide) (fun c78 => ?_) (fun c78 => ?_)
                · have b79 : kb 0 v69 0 := kb_eq c78 kc_0
                  refine lv_iconst (v := 0) hx hb dX12_testOf_45 (by decide) ?_
                  refine lv_istore_n (lv' := [(2, .int 0), (3, .int v69), (0, .ref o), (1, .int lv)]) hx hb dX12_testOf_46 rfl hl (by decide) rfl (fun ls hl => ?_)
                  refine lv_goto (tgt := 6) hx hb dX12_testOf_47 (by decide) ?_
                  exact ihlp13 (mm) (orO xv ww) u70 _ _ _ 0 (h6) hI hE (kb_w kc_0 (by decide) (by decide)) (by rw [egv72.symm]; exact hg73) (by show mTv lv cb (orO xv ww Ws) (u70 24) 0; rw [ebq74.symm]; exact m_or hacc hr76 (by rw [if_pos ⟨kb_11 b54, c55⟩]) (b01 b15) (by rw [if_pos c77]; exact c78.symm)) hP hD hS (lv_sub hl [0, 2, 3] rfl)
                · have b80 : kb 1 v69 1 := kr_nel c78 hw68.1 kc_0 (by decide)
                  refine lv_iconst (v := 1) hx hb dX12_testOf_41 (by decide) ?_
                  refine lv_goto (tgt := 46) hx hb dX12_testOf_42 (by decide) ?_
                  refine lv_istore_n (lv' := [(2, .int 1), (3, .int v69), (0, .ref o), (1, .int lv)]) hx hb dX12_testOf_46 rfl hl (by decide) rfl (fun ls hl => ?_)
                  refine lv_goto (tgt := 6) hx hb dX12_testOf_47 (by decide) ?_
                  exact ihlp13 (mm) (orO xv ww) u70 _ _ _ 1 (h6) hI hE (kb_w kc_1 (by decide) (by decide)) (by rw [egv72.symm]; exact hg73) (by show mTv lv cb (orO xv ww Ws) (u70 24) 1; rw [ebq74.symm]; exact m_or hacc hr76 (by rw [if_pos ⟨kb_11 b54, c55⟩]) (b01 b15) (by rw [if_pos c77]; exact (kb_11 b80).symm)) hP hD hS (lv_sub hl [0, 2, 3] rfl)
  exact lp13 (n0) (m0) w0 u4 _ _ _ v3 (hn0) hI hE hw2.1 (by rw [egv6.symm]; exact hg7) (by show mTv lv cb (w0 Ws) (u4 24) _; rw [ebq8.symm]; exact hr10) hP hD hS (lv_sub hl [0, 1, 2] rfl)
set_option maxHeartbeats 4000000 in
set_option maxRecDepth 100000 in
theorem n_partOf (d : Nat) (ih : ∀ e, d = e + 1 → nSum e) (l : Launch) {D : va_G} {K : Nat → ClassId} (o : Nat) (r : Nat → Nat) (f : Nat → Int32) (a : Nat → Nat → Int32) (g : Nat → Int64) (hI : mI f a) (lv : Int32) (blv : kb 0 lv 1) (t i j : Nat) (ob : Bool) (T : Nat → Int32) (Ws : Nat → Int) (v_ : eV) (hp0 : eS f a t ob) (hp1 : (f 22).toInt = 400 * (t : Int) + (i : Int)) (hp2 : tQ (a 2) t T) (hp3 : wQ ob Ws f a) (hp4 : eG ob T d 2 i e1 j v_) : kL l yX12_partOf (Cond.code yX12_partOf cX12_partOf 4 (some .long) :: kG) (rmD (3 * d + 6) 0 0) D (tysK K) [.ref o, .int lv] (mW K o r f a g) (fun v (u : Nat → Int32) => kbl (-9223372036854775808) v 9223372036854775807 ∧ mI u a ∧ fE [22, 24] f u ∧ (u 22).toInt = 400 * (t : Int) + (j : Int) ∧ mRs lv (f 24) (v_ Ws) (u 24) v.toInt) (fun u => mW K o r u a g) 0 0 := by
  refine kL.of (cc := cX12_partOf) (maxL := 4) (ret := (some .long)) (by decide) rfl (Nat.le_of_ble_eq_true rfl) ?_
  intro p e s m below meth c A hx hb hr hml hown hts hlocks hnm hK hP hD hS hA ls hl
  have hE : fE [22, 24] f f := fE_rf
  have hg : ∀ w ∈ kG, w.before _ s = true := fun w h => hts w (List.mem_cons_of_mem _ h)
  have hown : s.vm.findClass RX12 = some m.cls := hown
  have hl : lv_has ls 4 [(0, .ref o), (1, .int lv)] := hl
  obtain ⟨c22, ec22⟩ : ∃ z : Int32, z = f 22 := ⟨_, rfl⟩
  have hg0 : c22.toInt = 400 * (t : Int) + (i : Int) := by rw [ec22]; exact hp1
  obtain ⟨cb, ecb⟩ : ∃ z : Int32, z = f 24 := ⟨_, rfl⟩
  have b1 : kb 0 cb 1 := kb_eq ecb (fI_at hI.1 24 (by decide) (by decide))
  cases ob
  · rcases eG_out hp4 with ⟨h1, ee, mm, hd, h2, h3, hj⟩ | ⟨h1, h2, hj, hj2⟩ | ⟨h1, h2, hj, hj2⟩
    · have b2 : kb 0 c22 2799 := kb_go (eS_fE hE hp0 (by decide) (by decide)) (mC_lt (eS_fE hE hp0 (by decide) (by decide)) (ne_0 (tq_y hp2 (x := 191) (y := 3091) (by decide +kernel) (by decide +kernel) h1) (by decide +kernel))) hg0
      refine lv_aload_n hx hb dX12_partOf_0 rfl (lv_at hl 0 rfl) ?_
      refine lv_bipush (v := 91) hx hb dX12_partOf_1 (by decide) ?_
      refine kN.callS (As := [.int 91]) (rest := [.ref o]) ⟨hx, hb, hml, hown, hg⟩ (m_sign l 91 (kb_w kc_91 (by decide) (by decide))) (va_cwS 1 hg (kgS wt6_220 wt6_221 wt1_14 wt6_222) rfl rfl rfl (by decide +kernel) ⟨by dsimp only [rmD]; omega, by dsimp only [rmD]; omega⟩) hP hS rfl hl.1 rfl (Nat.le_of_ble_eq_true rfl) dX12_partOf_3 ⟨Nat.le_refl _, Nat.le_refl _⟩ (fun v4 H locs hw3 hP hS => ?_)
      refine k_top (z := 191) (Int32.toInt_inj.mp (hw3.2.trans (by decide +kernel))) ?_
      refine kI.callV (As := [.int 191]) (rest := []) ⟨hx, hb, hml, hown, hg⟩ (m_passes0 l o r f a g hI 191 (kb_w kc_191 (by decide) (by decide)) t (i) false (eS_fE hE hp0 (by decide) (by decide)) (by rw [ec22.symm]; exact hg0)) (cwV 1 hg (kgV wt7_63 wt7_65 wp5_12 wt1_14 wt7_66) rfl rfl rfl (by decide +kernel) ⟨by dsimp only [rmD]; omega, by dsimp only [rmD]; omega⟩) hK hP hD hS hA mIs [] rfl (wr := []) rfl rfl rfl (fun i h => by cases h) 0 12 rfl rfl rfl hl.1 rfl (Nat.le_of_ble_eq_true rfl) dX12_partOf_6 ⟨Nat.le_refl _, Nat.le_refl _⟩ (fun v7 u8 H locs hw6 hP hD hS => ?_)
      have hP : va_P D vwCl (mW K o r u8 a g) H := hP
      have hD : va_D A (mW K o r u8 a g) := hD
      have hI : mI u8 a := hw6.2.1
      have eE9 : fE [22] f u8 := hw6.2.2.1
      have hE : fE [22, 24] f u8 := fE_tr hE (fE_w (by decide) eE9)
      have hz10 := pass_y hw6.2.2.2 (tq_y hp2 (x := 191) (y := 3091) (by decide +kernel) (by decide +kernel) h1)
      refine k_top (z := 1) hz10.1 ?_
      obtain ⟨gv11, egv11⟩ : ∃ z : Int32, z = u8 22 := ⟨_, rfl⟩
      have hg12 : gv11.toInt = 400 * (t : Int) + ((i + 1 : Nat) : Int) := by rw [egv11]; exact hz10.2
      refine lv_if_eq (tgt := 30) hx hb dX12_partOf_9 (by decide) (fun c13 => ?_) (fun c13 => ?_)
      · exact kb_dj c13 kc_1 kc_0 (by decide)
      · refine lv_aload_n hx hb dX12_partOf_12 rfl (lv_at hl 0 rfl) ?_
        refine lv_iload_n hx hb dX12_partOf_13 rfl (lv_at hl 1 rfl) ?_
        refine kL.callV (As := [.int lv]) (rest := []) ⟨hx, hb, hml, hown, hg⟩ ((ih ee hd) l o r u8 a g hI lv blv t (i + 1) (mm) false T Ws v_ (eS_fE hE hp0 (by decide) (by decide)) (by rw [egv11.symm]; exact hg12) hp2 (wQ_fE hE hp3 (by decide) (by decide)) h2) (cwV 1 hg (kgV wt7_51 wt7_53 wp5_9 wt1_14 wt7_54) rfl rfl rfl (by decide +kernel) ⟨by dsimp only [rmD]; omega, by dsimp only [rmD]; omega⟩) hK hP hD hS hA mIs [] rfl (wr := []) rfl rfl rfl (fun i h => by cases h) 0 12 rfl rfl rfl hl.1 rfl (Nat.le_of_ble_eq_true rfl) dX12_partOf_14 ⟨Nat.le_refl _, Nat.le_refl _⟩ (fun v15 u16 H locs hw14 hP hD hS => ?_)
        have hP : va_P D vwCl (mW K o r u16 a g) H := hP
        have hD : va_D A (mW K o r u16 a g) := hD
        have hI : mI u16 a := hw14.2.1
        have eE17 : fE [22, 24] u8 u16 := hw14.2.2.1
        have hE : fE [22, 24] f u16 := fE_tr hE eE17
        obtain ⟨gv18, egv18⟩ : ∃ z : Int32, z = u16 22 := ⟨_, rfl⟩
        have hg19 : gv18.toInt = 400 * (t : Int) + ((mm : Nat) : Int) := by rw [egv18]; exact hw14.2.2.2.1
        have b20 : kb 0 gv18 2799 := kb_go (eS_fE hE hp0 (by decide) (by decide)) (mC_lt (eS_fE hE hp0 (by decide) (by decide)) (ne_0 (tq_y hp2 (x := 193) (y := 3093) (by decide +kernel) (by decide +kernel) h3) (by decide +kernel))) hg19
        obtain ⟨bq21, ebq21⟩ : ∃ z : Int32, z = u16 24 := ⟨_, rfl⟩
        have b22 : kb 0 bq21 1 := kb_eq ebq21 (fI_at hI.1 24 (by decide) (by decide))
        have hr23 : mRs lv cb (v_ Ws) bq21 v15.toInt := by have w1 := hw14.2.2.2.2; rw [((eE9 24 (by decide)).trans ecb.symm), ← ebq21] at w1; exact w1
        refine lv_lstore_n (lv' := [(2, .long v15), (0, .ref o), (1, .int lv)]) hx hb dX12_partOf_17 rfl hl (by decide) rfl (fun ls hl => ?_)
        refine lv_aload_n hx hb dX12_partOf_18 rfl (lv_at hl 1 rfl) ?_
        refine lv_dup hx hb dX12_partOf_19 rfl ?_
        refine va_get (D := D) (ci := 12) (v := .int (u16 22)) (C := RX12) (T := TX12) (N := 48) hx hb hg inC12 hown hK hP 0 rfl rfl 22 (by decide) (hg _ wt5_182) (fun _ h9 => h9) rfl dX12_partOf_20 ?_
        refine k_top (z := gv18) egv18.symm ?_
        refine lv_iconst (v := 1) hx hb dX12_partOf_23 (by decide) ?_
        refine lv_iadd hx hb dX12_partOf_24 ?_
        refine lv_topi (fun t24 et24 => ?_)
        have b25 : kb 1 t24 2800 := kb_eq et24 (kb_add b20 kc_1 (by decide) (by decide))
        have qt24 : t24.toInt = gv18.toInt + 1 := by rw [et24]; exact kt_addc b20 kc_1 (by decide) (by decide)
        have hg26 : t24.toInt = 400 * (t : Int) + ((mm + 1 : Nat) : Int) := by rw [qt24, hg19]; omega
        refine va_put (D := D) (ci := 12) (v := .int t24) (ty := .int) (C := RX12) (T := TX12) (N := 48) hx hb hg inC12 tyX12 tyX12_ok nmX12 hown hK hP hD hS 0 rfl rfl 22 (by decide) (hg _ wt5_182) (fun _ h9 => h9) rfl (by decide +kernel) rfl rfl (Nat.le_of_ble_eq_true rfl) dX12_partOf_25 (fun H locs hP hD hS => ?_)
        have hP : va_P D vwCl (mW K o r (upd u16 22 t24) a g) H := hP
        have hD : va_D A (mW K o r (upd u16 22 t24) a g) := hD
        refine k_gen (P := fun z => va_P D vwCl (mW K o r z a g) H ∧ va_D A (mW K o r z a g) ∧ (mI z a) ∧ (fE [22, 24] f z)) (upd u16 22 t24) ⟨hP, hD, (mI_f hI (fI_st hI.1 22 (kb_any _) (by decide) (by decide))), (fE_f hE (by decide))⟩ (fun f_27 ef_27 hq => ?_)
        obtain ⟨hP, hD, hI, hE⟩ := hq
        refine lv_lload_n hx hb dX12_partOf_28 rfl (lv_at hl 0 rfl) ?_
        exact kL_ret (v := v15) hx hb hr hlocks hK hS dX12_partOf_29 f_27 hP hD ⟨(kbl_any v15), hI, hE, (by rw [(show f_27 22 = t24 from by rw [← ef_27]; rfl), hg26]; omega), (by show mRs lv (f 24) (v_ Ws) (f_27 24) (v15 : Int64).toInt; rw [((show f_27 24 = u16 24 from by rw [← ef_27]; rfl).trans ebq21.symm), ← ecb]; exact hr23)⟩
    · rcases lfq_l (hp2 i) h1 with ⟨hc, hcv, hb1000⟩ | ⟨hc1, hc2, hnk, hct⟩
      · have b28 : kb 0 c22 2799 := kb_go (eS_fE hE hp0 (by decide) (by decide)) (mC_lt (eS_fE hE hp0 (by decide) (by decide)) (ne_0 hc (by decide +kernel))) hg0
        refine lv_aload_n hx hb dX12_partOf_0 rfl (lv_at hl 0 rfl) ?_
        refine lv_bipush (v := 91) hx hb dX12_partOf_1 (by decide) ?_
        refine kN.callS (As := [.int 91]) (rest := [.ref o]) ⟨hx, hb, hml, hown, hg⟩ (m_sign l 91 (kb_w kc_91 (by decide) (by decide))) (va_cwS 1 hg (kgS wt6_220 wt6_221 wt1_14 wt6_222) rfl rfl rfl (by decide +kernel) ⟨by dsimp only [rmD]; omega, by dsimp only [rmD]; omega⟩) hP hS rfl hl.1 rfl (Nat.le_of_ble_eq_true rfl) dX12_partOf_3 ⟨Nat.le_refl _, Nat.le_refl _⟩ (fun v30 H locs hw29 hP hS => ?_)
        refine k_top (z := 191) (Int32.toInt_inj.mp (hw29.2.trans (by decide +kernel))) ?_
        refine kI.callV (As := [.int 191]) (rest := []) ⟨hx, hb, hml, hown, hg⟩ (m_passes0 l o r f a g hI 191 (kb_w kc_191 (by decide) (by decide)) t (i) false (eS_fE hE hp0 (by decide) (by decide)) (by rw [ec22.symm]; exact hg0)) (cwV 1 hg (kgV wt7_63 wt7_65 wp5_12 wt1_14 wt7_66) rfl rfl rfl (by decide +kernel) ⟨by dsimp only [rmD]; omega, by dsimp only [rmD]; omega⟩) hK hP hD hS hA mIs [] rfl (wr := []) rfl rfl rfl (fun i h => by cases h) 0 12 rfl rfl rfl hl.1 rfl (Nat.le_of_ble_eq_true rfl) dX12_partOf_6 ⟨Nat.le_refl _, Nat.le_refl _⟩ (fun v33 u34 H locs hw32 hP hD hS => ?_)
        have hP : va_P D vwCl (mW K o r u34 a g) H := hP
        have hD : va_D A (mW K o r u34 a g) := hD
        have hI : mI u34 a := hw32.2.1
        have eE35 : fE [22] f u34 := hw32.2.2.1
        have hE : fE [22, 24] f u34 := fE_tr hE (fE_w (by decide) eE35)
        have hz36 := pass_n hw32.2.2.2 (fun q => absurd (hc.symm.trans q) (by decide +kernel))
        refine k_top (z := 0) hz36.1 ?_
        obtain ⟨gv37, egv37⟩ : ∃ z : Int32, z = u34 22 := ⟨_, rfl⟩
        have hg38 : gv37.toInt = 400 * (t : Int) + ((i : Nat) : Int) := by rw [egv37]; exact hz36.2
        have b39 : kb 0 gv37 2799 := kb_go (eS_fE hE hp0 (by decide) (by decide)) (mC_lt (eS_fE hE hp0 (by decide) (by decide)) (ne_0 hc (by decide +kernel))) hg38
        refine lv_if_eq (tgt := 30) hx hb dX12_partOf_9 (by decide) (fun c40 => ?_) (fun c40 => ?_)
        · refine lv_aload_n hx hb dX12_partOf_30 rfl (lv_at hl 0 rfl) ?_
          refine lv_aload_n hx hb dX12_partOf_31 rfl (lv_at hl 0 rfl) ?_
          refine va_get (D := D) (ci := 12) (v := .int (u34 22)) (C := RX12) (T := TX12) (N := 48) hx hb hg inC12 hown hK hP 0 rfl rfl 22 (by decide) (hg _ wt5_182) (fun _ h9 => h9) rfl dX12_partOf_32 ?_
          refine k_top (z := gv37) egv37.symm ?_
          refine kI.callV (As := [.int gv37]) (rest := []) ⟨hx, hb, hml, hown, hg⟩ (m_codeAt l o r u34 a g hI gv37  t (i) false (eS_fE hE hp0 (by decide) (by decide)) hg38) (cwV 1 hg (kgV wt7_47 wt7_49 wp5_8 wt1_14 wt7_50) rfl rfl rfl (by decide +kernel) ⟨by dsimp only [rmD]; omega, by dsimp only [rmD]; omega⟩) hK hP hD hS hA mIs [] rfl (wr := []) rfl rfl rfl (fun i h => by cases h) 0 12 rfl rfl rfl hl.1 rfl (Nat.le_of_ble_eq_true rfl) dX12_partOf_35 ⟨Nat.le_refl _, Nat.le_refl _⟩ (fun v42 u43 H locs hw41 hP hD hS => ?_)
          have hP : va_P D vwCl (mW K o r u34 a g) H := hP
          have hD : va_D A (mW K o r u34 a g) := hD
          refine k_top (z := 50) (hw41.2.trans hc) ?_
          refine lv_istore_n (lv' := [(2, .int 50), (0, .ref o), (1, .int lv)]) hx hb dX12_partOf_38 rfl hl (by decide) rfl (fun ls hl => ?_)
          refine lv_iconst (v := 0) hx hb dX12_partOf_39 (by decide) ?_
          refine lv_istore_n (lv' := [(3, .int 0), (2, .int 50), (0, .ref o), (1, .int lv)]) hx hb dX12_partOf_40 rfl hl (by decide) rfl (fun ls hl => ?_)
          refine lv_aload_n hx hb dX12_partOf_41 rfl (lv_at hl 2 rfl) ?_
          refine lv_dup hx hb dX12_partOf_42 rfl ?_
          refine va_get (D := D) (ci := 12) (v := .int (u34 22)) (C := RX12) (T := TX12) (N := 48) hx hb hg inC12 hown hK hP 0 rfl rfl 22 (by decide) (hg _ wt5_182) (fun _ h9 => h9) rfl dX12_partOf_43 ?_
          refine k_top (z := gv37) egv37.symm ?_
          refine lv_iconst (v := 1) hx hb dX12_partOf_46 (by decide) ?_
          refine lv_iadd hx hb dX12_partOf_47 ?_
          refine lv_topi (fun t44 et44 => ?_)
          have b45 : kb 1 t44 2800 := kb_eq et44 (kb_add b39 kc_1 (by decide) (by decide))
          have qt44 : t44.toInt = gv37.toInt + 1 := by rw [et44]; exact kt_addc b39 kc_1 (by decide) (by decide)
          have hg46 : t44.toInt = 400 * (t : Int) + ((i + 1 : Nat) : Int) := by rw [qt44, hg38]; omega
          refine va_put (D := D) (ci := 12) (v := .int t44) (ty := .int) (C := RX12) (T := TX12) (N := 48) hx hb hg inC12 tyX12 tyX12_ok nmX12 hown hK hP hD hS 0 rfl rfl 22 (by decide) (hg _ wt5_182) (fun _ h9 => h9) rfl (by decide +kernel) rfl rfl (Nat.le_of_ble_eq_true rfl) dX12_partOf_48 (fun H locs hP hD hS => ?_)
          have hP : va_P D vwCl (mW K o r (upd u34 22 t44) a g) H := hP
          have hD : va_D A (mW K o r (upd u34 22 t44) a g) := hD
          refine k_gen (P := fun z => va_P D vwCl (mW K o r z a g) H ∧ va_D A (mW K o r z a g) ∧ (mI z a) ∧ (fE [22, 24] f z)) (upd u34 22 t44) ⟨hP, hD, (mI_f hI (fI_st hI.1 22 (kb_any _) (by decide) (by decide))), (fE_f hE (by decide))⟩ (fun f_47 ef_47 hq => ?_)
          obtain ⟨hP, hD, hI, hE⟩ := hq
          refine lv_aload_n hx hb dX12_partOf_51 rfl (lv_at hl 2 rfl) ?_
          refine va_get (D := D) (ci := 12) (v := .int (f_47 25)) (C := RX12) (T := TX12) (N := 48) hx hb hg inC12 hown hK hP 0 rfl rfl 25 (by decide) (hg _ wt5_185) (fun _ h9 => h9) rfl dX12_partOf_52 ?_
          refine k_top (z := 0) ((show f_47 25 = u34 25 from by rw [← ef_47]; rfl).trans ((eE35 25 (by decide)).trans hp0.2.2.1)) ?_
          refine lv_if_eq (tgt := 100) hx hb dX12_partOf_55 (by decide) (fun c48 => ?_) (fun c48 => ?_)
          · refine lv_iload_n hx hb dX12_partOf_100 rfl (lv_at hl 3 rfl) ?_
            refine lv_if_eq (tgt := 111) hx hb dX12_partOf_101 (by decide) (fun c49 => ?_) (fun c49 => ?_)
            · have b50 : kb 0 lv 0 := kb_eq c49 kc_0
              refine lv_lconst (v := 0) hx hb dX12_partOf_111 (by decide) ?_
              exact kL_ret (v := 0) hx hb hr hlocks hK hS dX12_partOf_112 f_47 hP hD ⟨(kbl_w kcl_0 (by decide) (by decide)), hI, hE, (by rw [(show f_47 22 = t44 from by rw [← ef_47]; rfl), hg46]; omega), (by show mRs lv (f 24) (v_ Ws) (f_47 24) (0 : Int64).toInt; rw [((show f_47 24 = u34 24 from by rw [← ef_47]; rfl).trans ((eE35 24 (by decide)).trans ecb.symm)), ← ecb]; exact (Or.inr ⟨(fun h => absurd (c49.symm.trans h.1) (by decide +kernel)), rfl, (by decide +kernel)⟩))⟩
            · have b51 : kb 1 lv 1 := kr_nel c49 blv kc_0 (by decide)
              refine lv_aload_n hx hb dX12_partOf_104 rfl (lv_at hl 2 rfl) ?_
              refine va_get (D := D) (ci := 12) (v := .int (f_47 24)) (C := RX12) (T := TX12) (N := 48) hx hb hg inC12 hown hK hP 0 rfl rfl 24 (by decide) (hg _ wt5_184) (fun _ h9 => h9) rfl dX12_partOf_105 ?_
              refine k_top (z := cb) ((show f_47 24 = u34 24 from by rw [← ef_47]; rfl).trans ((eE35 24 (by decide)).trans ecb.symm)) ?_
              refine lv_if_eq (tgt := 113) hx hb dX12_partOf_108 (by decide) (fun c52 => ?_) (fun c52 => ?_)
              · have b53 : kb 0 cb 0 := kb_eq c52 kc_0
                refine lv_iload_n hx hb dX12_partOf_113 rfl (lv_at hl 1 rfl) ?_
                refine lv_bipush (v := 50) hx hb dX12_partOf_114 (by decide) ?_
                refine lv_icmp_ne (tgt := 136) hx hb dX12_partOf_116 (by decide) (fun c54 => ?_) (fun c54 => ?_)
                · exact kb_nsame c54 kc_50 kc_50
                · refine lv_aload_n hx hb dX12_partOf_119 rfl (lv_at hl 2 rfl) ?_
                  refine va_get (D := D) (ci := 12) (v := .ref (r 2)) (C := RX12) (T := TX12) (N := 48) hx hb hg inC12 hown hK hP 0 rfl rfl 2 (by decide) (hg _ wt5_162) (fun _ h9 => h9) rfl dX12_partOf_120 ?_
                  refine lv_sipush (v := 2914) hx hb dX12_partOf_123 (by decide) ?_
                  refine lv_aload_n hx hb dX12_partOf_126 rfl (lv_at hl 2 rfl) ?_
                  refine va_get (D := D) (ci := 12) (v := .int (f_47 22)) (C := RX12) (T := TX12) (N := 48) hx hb hg inC12 hown hK hP 0 rfl rfl 22 (by decide) (hg _ wt5_182) (fun _ h9 => h9) rfl dX12_partOf_127 ?_
                  refine k_top (z := t44) (show f_47 22 = t44 from by rw [← ef_47]; rfl) ?_
                  refine lv_iadd hx hb dX12_partOf_130 ?_
                  refine lv_topi (fun t55 et55 => ?_)
                  have b56 : kb 2915 t55 5714 := kb_eq et55 (kb_add kc_2914 b45 (by decide) (by decide))
                  have qt55 : t55.toInt = 2914 + t44.toInt := by rw [et55]; exact kt_cadd kc_2914 b45 (by decide) (by decide)
                  refine lv_iconst (v := 1) hx hb dX12_partOf_131 (by decide) ?_
                  refine lv_isub hx hb dX12_partOf_132 ?_
                  refine lv_topi (fun t57 et57 => ?_)
                  have b58 : kb 2914 t57 5713 := kb_eq et57 (kb_sub b56 kc_1 (by decide) (by decide))
                  have qt57 : t57.toInt = t55.toInt - 1 := by rw [et57]; exact kt_subc b56 kc_1 (by decide) (by decide)
                  refine va_iald hx hb hK hP 2 0 rfl rfl (kb_in b58 (by decide) (by decide)) dX12_partOf_133 ?_
                  refine lv_topi (fun t59 et59 => ?_)
                  refine lv_i2l hx hb dX12_partOf_134 rfl ?_
                  refine lv_topl (fun t60 et60 => ?_)
                  exact kL_ret (v := t60) hx hb hr hlocks hK hS dX12_partOf_135 f_47 hP hD ⟨(kbl_any t60), hI, hE, (by rw [(show f_47 22 = t44 from by rw [← ef_47]; rfl), hg46]; omega), (by show mRs lv (f 24) (v_ Ws) (f_47 24) (t60 : Int64).toInt; rw [((show f_47 24 = u34 24 from by rw [← ef_47]; rfl).trans ((eE35 24 (by decide)).trans ecb.symm)), ← ecb]; exact (Or.inl ⟨(kb_11 b51), c52, Or.inl ⟨(by rw [hj2, lf_num hb1000 (n := (T i).toInt.toNat) (by have w1 := hb1000.1; omega)]; show some _ = some _; congr 1; rw [show (t60 : Int64).toInt = (mV (a 2) t i).toInt from by rw [et60, kt_i2l, et59, mV_at (k := a 2) (t := t) (i := i) (by have w1 := qt57; omega)]]; have w1 := hb1000.1; have w2 := congrArg Int32.toInt hcv; omega), c52, (by rw [show (t60 : Int64).toInt = (mV (a 2) t i).toInt from by rw [et60, kt_i2l, et59, mV_at (k := a 2) (t := t) (i := i) (by have w1 := qt57; omega)]]; have w0 := congrArg Int32.toInt hcv; have w1 := hb1000.1; have w2 := hb1000.2; unfold oBp; omega)⟩⟩))⟩
              · have b61 : kb 1 cb 1 := kr_nel c52 b1 kc_0 (by decide)
                refine lv_lconst (v := 0) hx hb dX12_partOf_111 (by decide) ?_
                exact kL_ret (v := 0) hx hb hr hlocks hK hS dX12_partOf_112 f_47 hP hD ⟨(kbl_w kcl_0 (by decide) (by decide)), hI, hE, (by rw [(show f_47 22 = t44 from by rw [← ef_47]; rfl), hg46]; omega), (by show mRs lv (f 24) (v_ Ws) (f_47 24) (0 : Int64).toInt; rw [((show f_47 24 = u34 24 from by rw [← ef_47]; rfl).trans ((eE35 24 (by decide)).trans ecb.symm)), ← ecb]; exact (Or.inr ⟨(fun h => c52 h.2), rfl, (by decide +kernel)⟩))⟩
          · exact kb_nsame c48 kc_0 kc_0
        · exact kb_nsame c40 kc_0 kc_0
      · have b62 : kb 0 c22 2799 := kb_go (eS_fE hE hp0 (by decide) (by decide)) (mC_lt (eS_fE hE hp0 (by decide) (by decide)) (kb_nz (kb_of2 ⟨hc1, hc2⟩) (by decide))) hg0
        refine lv_aload_n hx hb dX12_partOf_0 rfl (lv_at hl 0 rfl) ?_
        refine lv_bipush (v := 91) hx hb dX12_partOf_1 (by decide) ?_
        refine kN.callS (As := [.int 91]) (rest := [.ref o]) ⟨hx, hb, hml, hown, hg⟩ (m_sign l 91 (kb_w kc_91 (by decide) (by decide))) (va_cwS 1 hg (kgS wt6_220 wt6_221 wt1_14 wt6_222) rfl rfl rfl (by decide +kernel) ⟨by dsimp only [rmD]; omega, by dsimp only [rmD]; omega⟩) hP hS rfl hl.1 rfl (Nat.le_of_ble_eq_true rfl) dX12_partOf_3 ⟨Nat.le_refl _, Nat.le_refl _⟩ (fun v64 H locs hw63 hP hS => ?_)
        refine k_top (z := 191) (Int32.toInt_inj.mp (hw63.2.trans (by decide +kernel))) ?_
        refine kI.callV (As := [.int 191]) (rest := []) ⟨hx, hb, hml, hown, hg⟩ (m_passes0 l o r f a g hI 191 (kb_w kc_191 (by decide) (by decide)) t (i) false (eS_fE hE hp0 (by decide) (by decide)) (by rw [ec22.symm]; exact hg0)) (cwV 1 hg (kgV wt7_63 wt7_65 wp5_12 wt1_14 wt7_66) rfl rfl rfl (by decide +kernel) ⟨by dsimp only [rmD]; omega, by dsimp only [rmD]; omega⟩) hK hP hD hS hA mIs [] rfl (wr := []) rfl rfl rfl (fun i h => by cases h) 0 12 rfl rfl rfl hl.1 rfl (Nat.le_of_ble_eq_true rfl) dX12_partOf_6 ⟨Nat.le_refl _, Nat.le_refl _⟩ (fun v67 u68 H locs hw66 hP hD hS => ?_)
        have hP : va_P D vwCl (mW K o r u68 a g) H := hP
        have hD : va_D A (mW K o r u68 a g) := hD
        have hI : mI u68 a := hw66.2.1
        have eE69 : fE [22] f u68 := hw66.2.2.1
        have hE : fE [22, 24] f u68 := fE_tr hE (fE_w (by decide) eE69)
        have hz70 := pass_n hw66.2.2.2 (fun q => kb_dj q (kb_of2 ⟨hc1, hc2⟩) kc_191 (by decide))
        refine k_top (z := 0) hz70.1 ?_
        obtain ⟨gv71, egv71⟩ : ∃ z : Int32, z = u68 22 := ⟨_, rfl⟩
        have hg72 : gv71.toInt = 400 * (t : Int) + ((i : Nat) : Int) := by rw [egv71]; exact hz70.2
        have b73 : kb 0 gv71 2799 := kb_go (eS_fE hE hp0 (by decide) (by decide)) (mC_lt (eS_fE hE hp0 (by decide) (by decide)) (kb_nz (kb_of2 ⟨hc1, hc2⟩) (by decide))) hg72
        refine lv_if_eq (tgt := 30) hx hb dX12_partOf_9 (by decide) (fun c74 => ?_) (fun c74 => ?_)
        · refine lv_aload_n hx hb dX12_partOf_30 rfl (lv_at hl 0 rfl) ?_
          refine lv_aload_n hx hb dX12_partOf_31 rfl (lv_at hl 0 rfl) ?_
          refine va_get (D := D) (ci := 12) (v := .int (u68 22)) (C := RX12) (T := TX12) (N := 48) hx hb hg inC12 hown hK hP 0 rfl rfl 22 (by decide) (hg _ wt5_182) (fun _ h9 => h9) rfl dX12_partOf_32 ?_
          refine k_top (z := gv71) egv71.symm ?_
          refine kI.callV (As := [.int gv71]) (rest := []) ⟨hx, hb, hml, hown, hg⟩ (m_codeAt l o r u68 a g hI gv71  t (i) false (eS_fE hE hp0 (by decide) (by decide)) hg72) (cwV 1 hg (kgV wt7_47 wt7_49 wp5_8 wt1_14 wt7_50) rfl rfl rfl (by decide +kernel) ⟨by dsimp only [rmD]; omega, by dsimp only [rmD]; omega⟩) hK hP hD hS hA mIs [] rfl (wr := []) rfl rfl rfl (fun i h => by cases h) 0 12 rfl rfl rfl hl.1 rfl (Nat.le_of_ble_eq_true rfl) dX12_partOf_35 ⟨Nat.le_refl _, Nat.le_refl _⟩ (fun v76 u77 H locs hw75 hP hD hS => ?_)
          have hP : va_P D vwCl (mW K o r u68 a g) H := hP
          have hD : va_D A (mW K o r u68 a g) := hD
          have b78 : kb 9 v76 18 := kb_eq hw75.2 (kb_of2 ⟨hc1, hc2⟩)
          refine lv_istore_n (lv' := [(2, .int v76), (0, .ref o), (1, .int lv)]) hx hb dX12_partOf_38 rfl hl (by decide) rfl (fun ls hl => ?_)
          refine lv_iconst (v := 0) hx hb dX12_partOf_39 (by decide) ?_
          refine lv_istore_n (lv' := [(3, .int 0), (2, .int v76), (0, .ref o), (1, .int lv)]) hx hb dX12_partOf_40 rfl hl (by decide) rfl (fun ls hl => ?_)
          refine lv_aload_n hx hb dX12_partOf_41 rfl (lv_at hl 2 rfl) ?_
          refine lv_dup hx hb dX12_partOf_42 rfl ?_
          refine va_get (D := D) (ci := 12) (v := .int (u68 22)) (C := RX12) (T := TX12) (N := 48) hx hb hg inC12 hown hK hP 0 rfl rfl 22 (by decide) (hg _ wt5_182) (fun _ h9 => h9) rfl dX12_partOf_43 ?_
          refine k_top (z := gv71) egv71.symm ?_
          refine lv_iconst (v := 1) hx hb dX12_partOf_46 (by decide) ?_
          refine lv_iadd hx hb dX12_partOf_47 ?_
          refine lv_topi (fun t79 et79 => ?_)
          have b80 : kb 1 t79 2800 := kb_eq et79 (kb_add b73 kc_1 (by decide) (by decide))
          have qt79 : t79.toInt = gv71.toInt + 1 := by rw [et79]; exact kt_addc b73 kc_1 (by decide) (by decide)
          have hg81 : t79.toInt = 400 * (t : Int) + ((i + 1 : Nat) : Int) := by rw [qt79, hg72]; omega
          refine va_put (D := D) (ci := 12) (v := .int t79) (ty := .int) (C := RX12) (T := TX12) (N := 48) hx hb hg inC12 tyX12 tyX12_ok nmX12 hown hK hP hD hS 0 rfl rfl 22 (by decide) (hg _ wt5_182) (fun _ h9 => h9) rfl (by decide +kernel) rfl rfl (Nat.le_of_ble_eq_true rfl) dX12_partOf_48 (fun H locs hP hD hS => ?_)
          have hP : va_P D vwCl (mW K o r (upd u68 22 t79) a g) H := hP
          have hD : va_D A (mW K o r (upd u68 22 t79) a g) := hD
          refine k_gen (P := fun z => va_P D vwCl (mW K o r z a g) H ∧ va_D A (mW K o r z a g) ∧ (mI z a) ∧ (fE [22, 24] f z)) (upd u68 22 t79) ⟨hP, hD, (mI_f hI (fI_st hI.1 22 (kb_any _) (by decide) (by decide))), (fE_f hE (by decide))⟩ (fun f_82 ef_82 hq => ?_)
          obtain ⟨hP, hD, hI, hE⟩ := hq
          refine lv_aload_n hx hb dX12_partOf_51 rfl (lv_at hl 2 rfl) ?_
          refine va_get (D := D) (ci := 12) (v := .int (f_82 25)) (C := RX12) (T := TX12) (N := 48) hx hb hg inC12 hown hK hP 0 rfl rfl 25 (by decide) (hg _ wt5_185) (fun _ h9 => h9) rfl dX12_partOf_52 ?_
          refine k_top (z := 0) ((show f_82 25 = u68 25 from by rw [← ef_82]; rfl).trans ((eE69 25 (by decide)).trans hp0.2.2.1)) ?_
          refine lv_if_eq (tgt := 100) hx hb dX12_partOf_55 (by decide) (fun c83 => ?_) (fun c83 => ?_)
          · refine lv_iload_n hx hb dX12_partOf_100 rfl (lv_at hl 3 rfl) ?_
            refine lv_if_eq (tgt := 111) hx hb dX12_partOf_101 (by decide) (fun c84 => ?_) (fun c84 => ?_)
            · have b85 : kb 0 lv 0 := kb_eq c84 kc_0
              refine lv_lconst (v := 0) hx hb dX12_partOf_111 (by decide) ?_
              exact kL_ret (v := 0) hx hb hr hlocks hK hS dX12_partOf_112 f_82 hP hD ⟨(kbl_w kcl_0 (by decide) (by decide)), hI, hE, (by rw [(show f_82 22 = t79 from by rw [← ef_82]; rfl), hg81]; omega), (by show mRs lv (f 24) (v_ Ws) (f_82 24) (0 : Int64).toInt; rw [((show f_82 24 = u68 24 from by rw [← ef_82]; rfl).trans ((eE69 24 (by decide)).trans ecb.symm)), ← ecb]; exact (Or.inr ⟨(fun h => absurd (c84.symm.trans h.1) (by decide +kernel)), rfl, (by decide +kernel)⟩))⟩
            · have b86 : kb 1 lv 1 := kr_nel c84 blv kc_0 (by decide)
              refine lv_aload_n hx hb dX12_partOf_104 rfl (lv_at hl 2 rfl) ?_
              refine va_get (D := D) (ci := 12) (v := .int (f_82 24)) (C := RX12) (T := TX12) (N := 48) hx hb hg inC12 hown hK hP 0 rfl rfl 24 (by decide) (hg _ wt5_184) (fun _ h9 => h9) rfl dX12_partOf_105 ?_
              refine k_top (z := cb) ((show f_82 24 = u68 24 from by rw [← ef_82]; rfl).trans ((eE69 24 (by decide)).trans ecb.symm)) ?_
              refine lv_if_eq (tgt := 113) hx hb dX12_partOf_108 (by decide) (fun c87 => ?_) (fun c87 => ?_)
              · have b88 : kb 0 cb 0 := kb_eq c87 kc_0
                refine lv_iload_n hx hb dX12_partOf_113 rfl (lv_at hl 1 rfl) ?_
                refine lv_bipush (v := 50) hx hb dX12_partOf_114 (by decide) ?_
                refine lv_icmp_ne (tgt := 136) hx hb dX12_partOf_116 (by decide) (fun c89 => ?_) (fun c89 => ?_)
                · refine lv_aload_n hx hb dX12_partOf_136 rfl (lv_at hl 2 rfl) ?_
                  refine va_get (D := D) (ci := 12) (v := .int (f_82 25)) (C := RX12) (T := TX12) (N := 48) hx hb hg inC12 hown hK hP 0 rfl rfl 25 (by decide) (hg _ wt5_185) (fun _ h9 => h9) rfl dX12_partOf_137 ?_
                  refine k_top (z := 0) ((show f_82 25 = u68 25 from by rw [← ef_82]; rfl).trans ((eE69 25 (by decide)).trans hp0.2.2.1)) ?_
                  refine lv_if_eq (tgt := 153) hx hb dX12_partOf_140 (by decide) (fun c90 => ?_) (fun c90 => ?_)
                  · refine lv_aload_n hx hb dX12_partOf_153 rfl (lv_at hl 2 rfl) ?_
                    refine va_get (D := D) (ci := 12) (v := .ref (r 26)) (C := RX12) (T := TX12) (N := 48) hx hb hg inC12 hown hK hP 0 rfl rfl 26 (by decide) (hg _ wt5_186) (fun _ h9 => h9) rfl dX12_partOf_154 ?_
                    refine lv_iload_n hx hb dX12_partOf_157 rfl (lv_at hl 1 rfl) ?_
                    refine lv_bipush (v := 9) hx hb dX12_partOf_158 (by decide) ?_
                    refine lv_isub hx hb dX12_partOf_160 ?_
                    refine lv_topi (fun t91 et91 => ?_)
                    have b92 : kb 0 t91 9 := kb_eq et91 (kb_sub b78 kc_9 (by decide) (by decide))
                    have qt91 : t91.toInt = v76.toInt - 9 := by rw [et91]; exact kt_subc b78 kc_9 (by decide) (by decide)
                    refine va_iald hx hb hK hP 12 0 rfl rfl (kb_in b92 (by decide) (by decide)) dX12_partOf_161 ?_
                    refine lv_topi (fun t93 et93 => ?_)
                    refine lv_i2l hx hb dX12_partOf_162 rfl ?_
                    refine lv_topl (fun t94 et94 => ?_)
                    exact kL_ret (v := t94) hx hb hr hlocks hK hS dX12_partOf_163 f_82 hP hD ⟨(kbl_any t94), hI, hE, (by rw [(show f_82 22 = t79 from by rw [← ef_82]; rfl), hg81]; omega), (by show mRs lv (f 24) (v_ Ws) (f_82 24) (t94 : Int64).toInt; rw [((show f_82 24 = u68 24 from by rw [← ef_82]; rfl).trans ((eE69 24 (by decide)).trans ecb.symm)), ← ecb]; exact (Or.inl ⟨(kb_11 b86), c87, Or.inl ⟨(by rw [hj2, lf_word hnk rfl, (show (t94 : Int64).toInt = Ws (wIx false (T i) (T (i + 1))) from by rw [et94, kt_i2l, et93]; exact lw_at hp3 rfl hc1 hc2 (by have w1 := qt91; have w2 := congrArg Int32.toInt hw75.2; have w3 := hc1; unfold Int32.toNatClampNeg; omega) hct)]), c87, (by rw [(show (t94 : Int64).toInt = Ws (wIx false (T i) (T (i + 1))) from by rw [et94, kt_i2l, et93]; exact lw_at hp3 rfl hc1 hc2 (by have w1 := qt91; have w2 := congrArg Int32.toInt hw75.2; have w3 := hc1; unfold Int32.toNatClampNeg; omega) hct)]; exact hp3.1 _)⟩⟩))⟩
                  · exact kb_nsame c90 kc_0 kc_0
                · exact kb_dj c89 b78 kc_50 (by decide)
              · have b95 : kb 1 cb 1 := kr_nel c87 b1 kc_0 (by decide)
                refine lv_lconst (v := 0) hx hb dX12_partOf_111 (by decide) ?_
                exact kL_ret (v := 0) hx hb hr hlocks hK hS dX12_partOf_112 f_82 hP hD ⟨(kbl_w kcl_0 (by decide) (by decide)), hI, hE, (by rw [(show f_82 22 = t79 from by rw [← ef_82]; rfl), hg81]; omega), (by show mRs lv (f 24) (v_ Ws) (f_82 24) (0 : Int64).toInt; rw [((show f_82 24 = u68 24 from by rw [← ef_82]; rfl).trans ((eE69 24 (by decide)).trans ecb.symm)), ← ecb]; exact (Or.inr ⟨(fun h => c87 h.2), rfl, (by decide +kernel)⟩))⟩
          · exact kb_nsame c83 kc_0 kc_0
        · exact kb_nsame c74 kc_0 kc_0
    · exact (Bool.false_ne_true h1).elim
  · rcases eG_out hp4 with ⟨h1, ee, mm, hd, h2, h3, hj⟩ | ⟨h1, h2, hj, hj2⟩ | ⟨h1, h2, hj, hj2⟩
    · have b96 : kb 0 c22 2799 := kb_go (eS_fE hE hp0 (by decide) (by decide)) (mC_lt (eS_fE hE hp0 (by decide) (by decide)) (ne_0 (tq_y hp2 (x := 191) (y := 3091) (by decide +kernel) (by decide +kernel) h1) (by decide +kernel))) hg0
      refine lv_aload_n hx hb dX12_partOf_0 rfl (lv_at hl 0 rfl) ?_
      refine lv_bipush (v := 91) hx hb dX12_partOf_1 (by decide) ?_
      refine kN.callS (As := [.int 91]) (rest := [.ref o]) ⟨hx, hb, hml, hown, hg⟩ (m_sign l 91 (kb_w kc_91 (by decide) (by decide))) (va_cwS 1 hg (kgS wt6_220 wt6_221 wt1_14 wt6_222) rfl rfl rfl (by decide +kernel) ⟨by dsimp only [rmD]; omega, by dsimp only [rmD]; omega⟩) hP hS rfl hl.1 rfl (Nat.le_of_ble_eq_true rfl) dX12_partOf_3 ⟨Nat.le_refl _, Nat.le_refl _⟩ (fun v98 H locs hw97 hP hS => ?_)
      refine k_top (z := 191) (Int32.toInt_inj.mp (hw97.2.trans (by decide +kernel))) ?_
      refine kI.callV (As := [.int 191]) (rest := []) ⟨hx, hb, hml, hown, hg⟩ (m_passes0 l o r f a g hI 191 (kb_w kc_191 (by decide) (by decide)) t (i) true (eS_fE hE hp0 (by decide) (by decide)) (by rw [ec22.symm]; exact hg0)) (cwV 1 hg (kgV wt7_63 wt7_65 wp5_12 wt1_14 wt7_66) rfl rfl rfl (by decide +kernel) ⟨by dsimp only [rmD]; omega, by dsimp only [rmD]; omega⟩) hK hP hD hS hA mIs [] rfl (wr := []) rfl rfl rfl (fun i h => by cases h) 0 12 rfl rfl rfl hl.1 rfl (Nat.le_of_ble_eq_true rfl) dX12_partOf_6 ⟨Nat.le_refl _, Nat.le_refl _⟩ (fun v101 u102 H locs hw100 hP hD hS => ?_)
      have hP : va_P D vwCl (mW K o r u102 a g) H := hP
      have hD : va_D A (mW K o r u102 a g) := hD
      have hI : mI u102 a := hw100.2.1
      have eE103 : fE [22] f u102 := hw100.2.2.1
      have hE : fE [22, 24] f u102 := fE_tr hE (fE_w (by decide) eE103)
      have hz104 := pass_y hw100.2.2.2 (tq_y hp2 (x := 191) (y := 3091) (by decide +kernel) (by decide +kernel) h1)
      refine k_top (z := 1) hz104.1 ?_
      obtain ⟨gv105, egv105⟩ : ∃ z : Int32, z = u102 22 := ⟨_, rfl⟩
      have hg106 : gv105.toInt = 400 * (t : Int) + ((i + 1 : Nat) : Int) := by rw [egv105]; exact hz104.2
      refine lv_if_eq (tgt := 30) hx hb dX12_partOf_9 (by decide) (fun c107 => ?_) (fun c107 => ?_)
      · exact kb_dj c107 kc_1 kc_0 (by decide)
      · refine lv_aload_n hx hb dX12_partOf_12 rfl (lv_at hl 0 rfl) ?_
        refine lv_iload_n hx hb dX12_partOf_13 rfl (lv_at hl 1 rfl) ?_
        refine kL.callV (As := [.int lv]) (rest := []) ⟨hx, hb, hml, hown, hg⟩ ((ih ee hd) l o r u102 a g hI lv blv t (i + 1) (mm) true T Ws v_ (eS_fE hE hp0 (by decide) (by decide)) (by rw [egv105.symm]; exact hg106) hp2 (wQ_fE hE hp3 (by decide) (by decide)) h2) (cwV 1 hg (kgV wt7_51 wt7_53 wp5_9 wt1_14 wt7_54) rfl rfl rfl (by decide +kernel) ⟨by dsimp only [rmD]; omega, by dsimp only [rmD]; omega⟩) hK hP hD hS hA mIs [] rfl (wr := []) rfl rfl rfl (fun i h => by cases h) 0 12 rfl rfl rfl hl.1 rfl (Nat.le_of_ble_eq_true rfl) dX12_partOf_14 ⟨Nat.le_refl _, Nat.le_refl _⟩ (fun v109 u110 H locs hw108 hP hD hS => ?_)
        have hP : va_P D vwCl (mW K o r u110 a g) H := hP
        have hD : va_D A (mW K o r u110 a g) := hD
        have hI : mI u110 a := hw108.2.1
        have eE111 : fE [22, 24] u102 u110 := hw108.2.2.1
        have hE : fE [22, 24] f u110 := fE_tr hE eE111
        obtain ⟨gv112, egv112⟩ : ∃ z : Int32, z = u110 22 := ⟨_, rfl⟩
        have hg113 : gv112.toInt = 400 * (t : Int) + ((mm : Nat) : Int) := by rw [egv112]; exact hw108.2.2.2.1
        have b114 : kb 0 gv112 2799 := kb_go (eS_fE hE hp0 (by decide) (by decide)) (mC_lt (eS_fE hE hp0 (by decide) (by decide)) (ne_0 (tq_y hp2 (x := 193) (y := 3093) (by decide +kernel) (by decide +kernel) h3) (by decide +kernel))) hg113
        obtain ⟨bq115, ebq115⟩ : ∃ z : Int32, z = u110 24 := ⟨_, rfl⟩
        have b116 : kb 0 bq115 1 := kb_eq ebq115 (fI_at hI.1 24 (by decide) (by decide))
        have hr117 : mRs lv cb (v_ Ws) bq115 v109.toInt := by have w1 := hw108.2.2.2.2; rw [((eE103 24 (by decide)).trans ecb.symm), ← ebq115] at w1; exact w1
        refine lv_lstore_n (lv' := [(2, .long v109), (0, .ref o), (1, .int lv)]) hx hb dX12_partOf_17 rfl hl (by decide) rfl (fun ls hl => ?_)
        refine lv_aload_n hx hb dX12_partOf_18 rfl (lv_at hl 1 rfl) ?_
        refine lv_dup hx hb dX12_partOf_19 rfl ?_
        refine va_get (D := D) (ci := 12) (v := .int (u110 22)) (C := RX12) (T := TX12) (N := 48) hx hb hg inC12 hown hK hP 0 rfl rfl 22 (by decide) (hg _ wt5_182) (fun _ h9 => h9) rfl dX12_partOf_20 ?_
        refine k_top (z := gv112) egv112.symm ?_
        refine lv_iconst (v := 1) hx hb dX12_partOf_23 (by decide) ?_
        refine lv_iadd hx hb dX12_partOf_24 ?_
        refine lv_topi (fun t118 et118 => ?_)
        have b119 : kb 1 t118 2800 := kb_eq et118 (kb_add b114 kc_1 (by decide) (by decide))
        have qt118 : t118.toInt = gv112.toInt + 1 := by rw [et118]; exact kt_addc b114 kc_1 (by decide) (by decide)
        have hg120 : t118.toInt = 400 * (t : Int) + ((mm + 1 : Nat) : Int) := by rw [qt118, hg113]; omega
        refine va_put (D := D) (ci := 12) (v := .int t118) (ty := .int) (C := RX12) (T := TX12) (N := 48) hx hb hg inC12 tyX12 tyX12_ok nmX12 hown hK hP hD hS 0 rfl rfl 22 (by decide) (hg _ wt5_182) (fun _ h9 => h9) rfl (by decide +kernel) rfl rfl (Nat.le_of_ble_eq_true rfl) dX12_partOf_25 (fun H locs hP hD hS => ?_)
        have hP : va_P D vwCl (mW K o r (upd u110 22 t118) a g) H := hP
        have hD : va_D A (mW K o r (upd u110 22 t118) a g) := hD
        refine k_gen (P := fun z => va_P D vwCl (mW K o r z a g) H ∧ va_D A (mW K o r z a g) ∧ (mI z a) ∧ (fE [22, 24] f z)) (upd u110 22 t118) ⟨hP, hD, (mI_f hI (fI_st hI.1 22 (kb_any _) (by decide) (by decide))), (fE_f hE (by decide))⟩ (fun f_121 ef_121 hq => ?_)
        obtain ⟨hP, hD, hI, hE⟩ := hq
        refine lv_lload_n hx hb dX12_partOf_28 rfl (lv_at hl 0 rfl) ?_
        exact kL_ret (v := v109) hx hb hr hlocks hK hS dX12_partOf_29 f_121 hP hD ⟨(kbl_any v109), hI, hE, (by rw [(show f_121 22 = t118 from by rw [← ef_121]; rfl), hg120]; omega), (by show mRs lv (f 24) (v_ Ws) (f_121 24) (v109 : Int64).toInt; rw [((show f_121 24 = u110 24 from by rw [← ef_121]; rfl).trans ebq115.symm), ← ecb]; exact hr117)⟩
    · rcases lfq_o (hp2 i) h1 h2 with ⟨hc, hcv, hb1000⟩ | ⟨hc1, hc2, hn16, hn17, hn22, hnk, hct⟩
      · have b122 : kb 0 c22 2799 := kb_go (eS_fE hE hp0 (by decide) (by decide)) (mC_lt (eS_fE hE hp0 (by decide) (by decide)) (ne_0 hc (by decide +kernel))) hg0
        refine lv_aload_n hx hb dX12_partOf_0 rfl (lv_at hl 0 rfl) ?_
        refine lv_bipush (v := 91) hx hb dX12_partOf_1 (by decide) ?_
        refine kN.callS (As := [.int 91]) (rest := [.ref o]) ⟨hx, hb, hml, hown, hg⟩ (m_sign l 91 (kb_w kc_91 (by decide) (by decide))) (va_cwS 1 hg (kgS wt6_220 wt6_221 wt1_14 wt6_222) rfl rfl rfl (by decide +kernel) ⟨by dsimp only [rmD]; omega, by dsimp only [rmD]; omega⟩) hP hS rfl hl.1 rfl (Nat.le_of_ble_eq_true rfl) dX12_partOf_3 ⟨Nat.le_refl _, Nat.le_refl _⟩ (fun v124 H locs hw123 hP hS => ?_)
        refine k_top (z := 191) (Int32.toInt_inj.mp (hw123.2.trans (by decide +kernel))) ?_
        refine kI.callV (As := [.int 191]) (rest := []) ⟨hx, hb, hml, hown, hg⟩ (m_passes0 l o r f a g hI 191 (kb_w kc_191 (by decide) (by decide)) t (i) true (eS_fE hE hp0 (by decide) (by decide)) (by rw [ec22.symm]; exact hg0)) (cwV 1 hg (kgV wt7_63 wt7_65 wp5_12 wt1_14 wt7_66) rfl rfl rfl (by decide +kernel) ⟨by dsimp only [rmD]; omega, by dsimp only [rmD]; omega⟩) hK hP hD hS hA mIs [] rfl (wr := []) rfl rfl rfl (fun i h => by cases h) 0 12 rfl rfl rfl hl.1 rfl (Nat.le_of_ble_eq_true rfl) dX12_partOf_6 ⟨Nat.le_refl _, Nat.le_refl _⟩ (fun v127 u128 H locs hw126 hP hD hS => ?_)
        have hP : va_P D vwCl (mW K o r u128 a g) H := hP
        have hD : va_D A (mW K o r u128 a g) := hD
        have hI : mI u128 a := hw126.2.1
        have eE129 : fE [22] f u128 := hw126.2.2.1
        have hE : fE [22, 24] f u128 := fE_tr hE (fE_w (by decide) eE129)
        have hz130 := pass_n hw126.2.2.2 (fun q => absurd (hc.symm.trans q) (by decide +kernel))
        refine k_top (z := 0) hz130.1 ?_
        obtain ⟨gv131, egv131⟩ : ∃ z : Int32, z = u128 22 := ⟨_, rfl⟩
        have hg132 : gv131.toInt = 400 * (t : Int) + ((i : Nat) : Int) := by rw [egv131]; exact hz130.2
        have b133 : kb 0 gv131 2799 := kb_go (eS_fE hE hp0 (by decide) (by decide)) (mC_lt (eS_fE hE hp0 (by decide) (by decide)) (ne_0 hc (by decide +kernel))) hg132
        refine lv_if_eq (tgt := 30) hx hb dX12_partOf_9 (by decide) (fun c134 => ?_) (fun c134 => ?_)
        · refine lv_aload_n hx hb dX12_partOf_30 rfl (lv_at hl 0 rfl) ?_
          refine lv_aload_n hx hb dX12_partOf_31 rfl (lv_at hl 0 rfl) ?_
          refine va_get (D := D) (ci := 12) (v := .int (u128 22)) (C := RX12) (T := TX12) (N := 48) hx hb hg inC12 hown hK hP 0 rfl rfl 22 (by decide) (hg _ wt5_182) (fun _ h9 => h9) rfl dX12_partOf_32 ?_
          refine k_top (z := gv131) egv131.symm ?_
          refine kI.callV (As := [.int gv131]) (rest := []) ⟨hx, hb, hml, hown, hg⟩ (m_codeAt l o r u128 a g hI gv131  t (i) true (eS_fE hE hp0 (by decide) (by decide)) hg132) (cwV 1 hg (kgV wt7_47 wt7_49 wp5_8 wt1_14 wt7_50) rfl rfl rfl (by decide +kernel) ⟨by dsimp only [rmD]; omega, by dsimp only [rmD]; omega⟩) hK hP hD hS hA mIs [] rfl (wr := []) rfl rfl rfl (fun i h => by cases h) 0 12 rfl rfl rfl hl.1 rfl (Nat.le_of_ble_eq_true rfl) dX12_partOf_35 ⟨Nat.le_refl _, Nat.le_refl _⟩ (fun v136 u137 H locs hw135 hP hD hS => ?_)
          have hP : va_P D vwCl (mW K o r u128 a g) H := hP
          have hD : va_D A (mW K o r u128 a g) := hD
          refine k_top (z := 50) (hw135.2.trans hc) ?_
          refine lv_istore_n (lv' := [(2, .int 50), (0, .ref o), (1, .int lv)]) hx hb dX12_partOf_38 rfl hl (by decide) rfl (fun ls hl => ?_)
          refine lv_iconst (v := 0) hx hb dX12_partOf_39 (by decide) ?_
          refine lv_istore_n (lv' := [(3, .int 0), (2, .int 50), (0, .ref o), (1, .int lv)]) hx hb dX12_partOf_40 rfl hl (by decide) rfl (fun ls hl => ?_)
          refine lv_aload_n hx hb dX12_partOf_41 rfl (lv_at hl 2 rfl) ?_
          refine lv_dup hx hb dX12_partOf_42 rfl ?_
          refine va_get (D := D) (ci := 12) (v := .int (u128 22)) (C := RX12) (T := TX12) (N := 48) hx hb hg inC12 hown hK hP 0 rfl rfl 22 (by decide) (hg _ wt5_182) (fun _ h9 => h9) rfl dX12_partOf_43 ?_
          refine k_top (z := gv131) egv131.symm ?_
          refine lv_iconst (v := 1) hx hb dX12_partOf_46 (by decide) ?_
          refine lv_iadd hx hb dX12_partOf_47 ?_
          refine lv_topi (fun t138 et138 => ?_)
          have b139 : kb 1 t138 2800 := kb_eq et138 (kb_add b133 kc_1 (by decide) (by decide))
          have qt138 : t138.toInt = gv131.toInt + 1 := by rw [et138]; exact kt_addc b133 kc_1 (by decide) (by decide)
          have hg140 : t138.toInt = 400 * (t : Int) + ((i + 1 : Nat) : Int) := by rw [qt138, hg132]; omega
          refine va_put (D := D) (ci := 12) (v := .int t138) (ty := .int) (C := RX12) (T := TX12) (N := 48) hx hb hg inC12 tyX12 tyX12_ok nmX12 hown hK hP hD hS 0 rfl rfl 22 (by decide) (hg _ wt5_182) (fun _ h9 => h9) rfl (by decide +kernel) rfl rfl (Nat.le_of_ble_eq_true rfl) dX12_partOf_48 (fun H locs hP hD hS => ?_)
          have hP : va_P D vwCl (mW K o r (upd u128 22 t138) a g) H := hP
          have hD : va_D A (mW K o r (upd u128 22 t138) a g) := hD
          refine k_gen (P := fun z => va_P D vwCl (mW K o r z a g) H ∧ va_D A (mW K o r z a g) ∧ (mI z a) ∧ (fE [22, 24] f z)) (upd u128 22 t138) ⟨hP, hD, (mI_f hI (fI_st hI.1 22 (kb_any _) (by decide) (by decide))), (fE_f hE (by decide))⟩ (fun f_141 ef_141 hq => ?_)
          obtain ⟨hP, hD, hI, hE⟩ := hq
          refine lv_aload_n hx hb dX12_partOf_51 rfl (lv_at hl 2 rfl) ?_
          refine va_get (D := D) (ci := 12) (v := .int (f_141 25)) (C := RX12) (T := TX12) (N := 48) hx hb hg inC12 hown hK hP 0 rfl rfl 25 (by decide) (hg _ wt5_185) (fun _ h9 => h9) rfl dX12_partOf_52 ?_
          refine k_top (z := 1) ((show f_141 25 = u128 25 from by rw [← ef_141]; rfl).trans ((eE129 25 (by decide)).trans hp0.2.2.1)) ?_
          refine lv_if_eq (tgt := 100) hx hb dX12_partOf_55 (by decide) (fun c142 => ?_) (fun c142 => ?_)
          · exact kb_dj c142 kc_1 kc_0 (by decide)
          · refine lv_iload_n hx hb dX12_partOf_58 rfl (lv_at hl 1 rfl) ?_
            refine lv_bipush (v := 16) hx hb dX12_partOf_59 (by decide) ?_
            refine lv_icmp_eq (tgt := 76) hx hb dX12_partOf_61 (by decide) (fun c143 => ?_) (fun c143 => ?_)
            · exact kb_dj c143 kc_50 kc_16 (by decide)
            · refine lv_iload_n hx hb dX12_partOf_64 rfl (lv_at hl 1 rfl) ?_
              refine lv_bipush (v := 17) hx hb dX12_partOf_65 (by decide) ?_
              refine lv_icmp_eq (tgt := 76) hx hb dX12_partOf_67 (by decide) (fun c144 => ?_) (fun c144 => ?_)
              · exact kb_dj c144 kc_50 kc_17 (by decide)
              · refine lv_iload_n hx hb dX12_partOf_70 rfl (lv_at hl 1 rfl) ?_
                refine lv_bipush (v := 22) hx hb dX12_partOf_71 (by decide) ?_
                refine lv_icmp_ne (tgt := 100) hx hb dX12_partOf_73 (by decide) (fun c145 => ?_) (fun c145 => ?_)
                · refine lv_iload_n hx hb dX12_partOf_100 rfl (lv_at hl 3 rfl) ?_
                  refine lv_if_eq (tgt := 111) hx hb dX12_partOf_101 (by decide) (fun c146 => ?_) (fun c146 => ?_)
                  · have b147 : kb 0 lv 0 := kb_eq c146 kc_0
                    refine lv_lconst (v := 0) hx hb dX12_partOf_111 (by decide) ?_
                    exact kL_ret (v := 0) hx hb hr hlocks hK hS dX12_partOf_112 f_141 hP hD ⟨(kbl_w kcl_0 (by decide) (by decide)), hI, hE, (by rw [(show f_141 22 = t138 from by rw [← ef_141]; rfl), hg140]; omega), (by show mRs lv (f 24) (v_ Ws) (f_141 24) (0 : Int64).toInt; rw [((show f_141 24 = u128 24 from by rw [← ef_141]; rfl).trans ((eE129 24 (by decide)).trans ecb.symm)), ← ecb]; exact (Or.inr ⟨(fun h => absurd (c146.symm.trans h.1) (by decide +kernel)), rfl, (by decide +kernel)⟩))⟩
                  · have b148 : kb 1 lv 1 := kr_nel c146 blv kc_0 (by decide)
                    refine lv_aload_n hx hb dX12_partOf_104 rfl (lv_at hl 2 rfl) ?_
                    refine va_get (D := D) (ci := 12) (v := .int (f_141 24)) (C := RX12) (T := TX12) (N := 48) hx hb hg inC12 hown hK hP 0 rfl rfl 24 (by decide) (hg _ wt5_184) (fun _ h9 => h9) rfl dX12_partOf_105 ?_
                    refine k_top (z := cb) ((show f_141 24 = u128 24 from by rw [← ef_141]; rfl).trans ((eE129 24 (by decide)).trans ecb.symm)) ?_
                    refine lv_if_eq (tgt := 113) hx hb dX12_partOf_108 (by decide) (fun c149 => ?_) (fun c149 => ?_)
                    · have b150 : kb 0 cb 0 := kb_eq c149 kc_0
                      refine lv_iload_n hx hb dX12_partOf_113 rfl (lv_at hl 1 rfl) ?_
                      refine lv_bipush (v := 50) hx hb dX12_partOf_114 (by decide) ?_
                      refine lv_icmp_ne (tgt := 136) hx hb dX12_partOf_116 (by decide) (fun c151 => ?_) (fun c151 => ?_)
                      · exact kb_nsame c151 kc_50 kc_50
                      · refine lv_aload_n hx hb dX12_partOf_119 rfl (lv_at hl 2 rfl) ?_
                        refine va_get (D := D) (ci := 12) (v := .ref (r 2)) (C := RX12) (T := TX12) (N := 48) hx hb hg inC12 hown hK hP 0 rfl rfl 2 (by decide) (hg _ wt5_162) (fun _ h9 => h9) rfl dX12_partOf_120 ?_
                        refine lv_sipush (v := 2914) hx hb dX12_partOf_123 (by decide) ?_
                        refine lv_aload_n hx hb dX12_partOf_126 rfl (lv_at hl 2 rfl) ?_
                        refine va_get (D := D) (ci := 12) (v := .int (f_141 22)) (C := RX12) (T := TX12) (N := 48) hx hb hg inC12 hown hK hP 0 rfl rfl 22 (by decide) (hg _ wt5_182) (fun _ h9 => h9) rfl dX12_partOf_127 ?_
                        refine k_top (z := t138) (show f_141 22 = t138 from by rw [← ef_141]; rfl) ?_
                        refine lv_iadd hx hb dX12_partOf_130 ?_
                        refine lv_topi (fun t152 et152 => ?_)
                        have b153 : kb 2915 t152 5714 := kb_eq et152 (kb_add kc_2914 b139 (by decide) (by decide))
                        have qt152 : t152.toInt = 2914 + t138.toInt := by rw [et152]; exact kt_cadd kc_2914 b139 (by decide) (by decide)
                        refine lv_iconst (v := 1) hx hb dX12_partOf_131 (by decide) ?_
                        refine lv_isub hx hb dX12_partOf_132 ?_
                        refine lv_topi (fun t154 et154 => ?_)
                        have b155 : kb 2914 t154 5713 := kb_eq et154 (kb_sub b153 kc_1 (by decide) (by decide))
                        have qt154 : t154.toInt = t152.toInt - 1 := by rw [et154]; exact kt_subc b153 kc_1 (by decide) (by decide)
                        refine va_iald hx hb hK hP 2 0 rfl rfl (kb_in b155 (by decide) (by decide)) dX12_partOf_133 ?_
                        refine lv_topi (fun t156 et156 => ?_)
                        refine lv_i2l hx hb dX12_partOf_134 rfl ?_
                        refine lv_topl (fun t157 et157 => ?_)
                        exact kL_ret (v := t157) hx hb hr hlocks hK hS dX12_partOf_135 f_141 hP hD ⟨(kbl_any t157), hI, hE, (by rw [(show f_141 22 = t138 from by rw [← ef_141]; rfl), hg140]; omega), (by show mRs lv (f 24) (v_ Ws) (f_141 24) (t157 : Int64).toInt; rw [((show f_141 24 = u128 24 from by rw [← ef_141]; rfl).trans ((eE129 24 (by decide)).trans ecb.symm)), ← ecb]; exact (Or.inl ⟨(kb_11 b148), c149, Or.inl ⟨(by rw [hj2, lf_num hb1000 (n := (T i).toInt.toNat) (by have w1 := hb1000.1; omega)]; show some _ = some _; congr 1; rw [show (t157 : Int64).toInt = (mV (a 2) t i).toInt from by rw [et157, kt_i2l, et156, mV_at (k := a 2) (t := t) (i := i) (by have w1 := qt154; omega)]]; have w1 := hb1000.1; have w2 := congrArg Int32.toInt hcv; omega), c149, (by rw [show (t157 : Int64).toInt = (mV (a 2) t i).toInt from by rw [et157, kt_i2l, et156, mV_at (k := a 2) (t := t) (i := i) (by have w1 := qt154; omega)]]; have w0 := congrArg Int32.toInt hcv; have w1 := hb1000.1; have w2 := hb1000.2; unfold oBp; omega)⟩⟩))⟩
                    · have b158 : kb 1 cb 1 := kr_nel c149 b1 kc_0 (by decide)
                      refine lv_lconst (v := 0) hx hb dX12_partOf_111 (by decide) ?_
                      exact kL_ret (v := 0) hx hb hr hlocks hK hS dX12_partOf_112 f_141 hP hD ⟨(kbl_w kcl_0 (by decide) (by decide)), hI, hE, (by rw [(show f_141 22 = t138 from by rw [← ef_141]; rfl), hg140]; omega), (by show mRs lv (f 24) (v_ Ws) (f_141 24) (0 : Int64).toInt; rw [((show f_141 24 = u128 24 from by rw [← ef_141]; rfl).trans ((eE129 24 (by decide)).trans ecb.symm)), ← ecb]; exact (Or.inr ⟨(fun h => c149 h.2), rfl, (by decide +kernel)⟩))⟩
                · exact kb_dj c145 kc_50 kc_22 (by decide)
        · exact kb_nsame c134 kc_0 kc_0
      · have b159 : kb 0 c22 2799 := kb_go (eS_fE hE hp0 (by decide) (by decide)) (mC_lt (eS_fE hE hp0 (by decide) (by decide)) (kb_nz (kb_of2 ⟨hc1, hc2⟩) (by decide))) hg0
        refine lv_aload_n hx hb dX12_partOf_0 rfl (lv_at hl 0 rfl) ?_
        refine lv_bipush (v := 91) hx hb dX12_partOf_1 (by decide) ?_
        refine kN.callS (As := [.int 91]) (rest := [.ref o]) ⟨hx, hb, hml, hown, hg⟩ (m_sign l 91 (kb_w kc_91 (by decide) (by decide))) (va_cwS 1 hg (kgS wt6_220 wt6_221 wt1_14 wt6_222) rfl rfl rfl (by decide +kernel) ⟨by dsimp only [rmD]; omega, by dsimp only [rmD]; omega⟩) hP hS rfl hl.1 rfl (Nat.le_of_ble_eq_true rfl) dX12_partOf_3 ⟨Nat.le_refl _, Nat.le_refl _⟩ (fun v161 H locs hw160 hP hS => ?_)
        refine k_top (z := 191) (Int32.toInt_inj.mp (hw160.2.trans (by decide +kernel))) ?_
        refine kI.callV (As := [.int 191]) (rest := []) ⟨hx, hb, hml, hown, hg⟩ (m_passes0 l o r f a g hI 191 (kb_w kc_191 (by decide) (by decide)) t (i) true (eS_fE hE hp0 (by decide) (by decide)) (by rw [ec22.symm]; exact hg0)) (cwV 1 hg (kgV wt7_63 wt7_65 wp5_12 wt1_14 wt7_66) rfl rfl rfl (by decide +kernel) ⟨by dsimp only [rmD]; omega, by dsimp only [rmD]; omega⟩) hK hP hD hS hA mIs [] rfl (wr := []) rfl rfl rfl (fun i h => by cases h) 0 12 rfl rfl rfl hl.1 rfl (Nat.le_of_ble_eq_true rfl) dX12_partOf_6 ⟨Nat.le_refl _, Nat.le_refl _⟩ (fun v164 u165 H locs hw163 hP hD hS => ?_)
        have hP : va_P D vwCl (mW K o r u165 a g) H := hP
        have hD : va_D A (mW K o r u165 a g) := hD
        have hI : mI u165 a := hw163.2.1
        have eE166 : fE [22] f u165 := hw163.2.2.1
        have hE : fE [22, 24] f u165 := fE_tr hE (fE_w (by decide) eE166)
        have hz167 := pass_n hw163.2.2.2 (fun q => kb_dj q (kb_of2 ⟨hc1, hc2⟩) kc_191 (by decide))
        refine k_top (z := 0) hz167.1 ?_
        obtain ⟨gv168, egv168⟩ : ∃ z : Int32, z = u165 22 := ⟨_, rfl⟩
        have hg169 : gv168.toInt = 400 * (t : Int) + ((i : Nat) : Int) := by rw [egv168]; exact hz167.2
        have b170 : kb 0 gv168 2799 := kb_go (eS_fE hE hp0 (by decide) (by decide)) (mC_lt (eS_fE hE hp0 (by decide) (by decide)) (kb_nz (kb_of2 ⟨hc1, hc2⟩) (by decide))) hg169
        refine lv_if_eq (tgt := 30) hx hb dX12_partOf_9 (by decide) (fun c171 => ?_) (fun c171 => ?_)
        · refine lv_aload_n hx hb dX12_partOf_30 rfl (lv_at hl 0 rfl) ?_
          refine lv_aload_n hx hb dX12_partOf_31 rfl (lv_at hl 0 rfl) ?_
          refine va_get (D := D) (ci := 12) (v := .int (u165 22)) (C := RX12) (T := TX12) (N := 48) hx hb hg inC12 hown hK hP 0 rfl rfl 22 (by decide) (hg _ wt5_182) (fun _ h9 => h9) rfl dX12_partOf_32 ?_
          refine k_top (z := gv168) egv168.symm ?_
          refine kI.callV (As := [.int gv168]) (rest := []) ⟨hx, hb, hml, hown, hg⟩ (m_codeAt l o r u165 a g hI gv168  t (i) true (eS_fE hE hp0 (by decide) (by decide)) hg169) (cwV 1 hg (kgV wt7_47 wt7_49 wp5_8 wt1_14 wt7_50) rfl rfl rfl (by decide +kernel) ⟨by dsimp only [rmD]; omega, by dsimp only [rmD]; omega⟩) hK hP hD hS hA mIs [] rfl (wr := []) rfl rfl rfl (fun i h => by cases h) 0 12 rfl rfl rfl hl.1 rfl (Nat.le_of_ble_eq_true rfl) dX12_partOf_35 ⟨Nat.le_refl _, Nat.le_refl _⟩ (fun v173 u174 H locs hw172 hP hD hS => ?_)
          have hP : va_P D vwCl (mW K o r u165 a g) H := hP
          have hD : va_D A (mW K o r u165 a g) := hD
          have b175 : kb 16 v173 22 := kb_eq hw172.2 (kb_of2 ⟨hc1, hc2⟩)
          refine lv_istore_n (lv' := [(2, .int v173), (0, .ref o), (1, .int lv)]) hx hb dX12_partOf_38 rfl hl (by decide) rfl (fun ls hl => ?_)
          refine lv_iconst (v := 0) hx hb dX12_partOf_39 (by decide) ?_
          refine lv_istore_n (lv' := [(3, .int 0), (2, .int v173), (0, .ref o), (1, .int lv)]) hx hb dX12_partOf_40 rfl hl (by decide) rfl (fun ls hl => ?_)
          refine lv_aload_n hx hb dX12_partOf_41 rfl (lv_at hl 2 rfl) ?_
          refine lv_dup hx hb dX12_partOf_42 rfl ?_
          refine va_get (D := D) (ci := 12) (v := .int (u165 22)) (C := RX12) (T := TX12) (N := 48) hx hb hg inC12 hown hK hP 0 rfl rfl 22 (by decide) (hg _ wt5_182) (fun _ h9 => h9) rfl dX12_partOf_43 ?_
          refine k_top (z := gv168) egv168.symm ?_
          refine lv_iconst (v := 1) hx hb dX12_partOf_46 (by decide) ?_
          refine lv_iadd hx hb dX12_partOf_47 ?_
          refine lv_topi (fun t176 et176 => ?_)
          have b177 : kb 1 t176 2800 := kb_eq et176 (kb_add b170 kc_1 (by decide) (by decide))
          have qt176 : t176.toInt = gv168.toInt + 1 := by rw [et176]; exact kt_addc b170 kc_1 (by decide) (by decide)
          have hg178 : t176.toInt = 400 * (t : Int) + ((i + 1 : Nat) : Int) := by rw [qt176, hg169]; omega
          refine va_put (D := D) (ci := 12) (v := .int t176) (ty := .int) (C := RX12) (T := TX12) (N := 48) hx hb hg inC12 tyX12 tyX12_ok nmX12 hown hK hP hD hS 0 rfl rfl 22 (by decide) (hg _ wt5_182) (fun _ h9 => h9) rfl (by decide +kernel) rfl rfl (Nat.le_of_ble_eq_true rfl) dX12_partOf_48 (fun H locs hP hD hS => ?_)
          have hP : va_P D vwCl (mW K o r (upd u165 22 t176) a g) H := hP
          have hD : va_D A (mW K o r (upd u165 22 t176) a g) := hD
          refine k_gen (P := fun z => va_P D vwCl (mW K o r z a g) H ∧ va_D A (mW K o r z a g) ∧ (mI z a) ∧ (fE [22, 24] f z)) (upd u165 22 t176) ⟨hP, hD, (mI_f hI (fI_st hI.1 22 (kb_any _) (by decide) (by decide))), (fE_f hE (by decide))⟩ (fun f_179 ef_179 hq => ?_)
          obtain ⟨hP, hD, hI, hE⟩ := hq
          refine lv_aload_n hx hb dX12_partOf_51 rfl (lv_at hl 2 rfl) ?_
          refine va_get (D := D) (ci := 12) (v := .int (f_179 25)) (C := RX12) (T := TX12) (N := 48) hx hb hg inC12 hown hK hP 0 rfl rfl 25 (by decide) (hg _ wt5_185) (fun _ h9 => h9) rfl dX12_partOf_52 ?_
          refine k_top (z := 1) ((show f_179 25 = u165 25 from by rw [← ef_179]; rfl).trans ((eE166 25 (by decide)).trans hp0.2.2.1)) ?_
          refine lv_if_eq (tgt := 100) hx hb dX12_partOf_55 (by decide) (fun c180 => ?_) (fun c180 => ?_)
          · exact kb_dj c180 kc_1 kc_0 (by decide)
          · refine lv_iload_n hx hb dX12_partOf_58 rfl (lv_at hl 1 rfl) ?_
            refine lv_bipush (v := 16) hx hb dX12_partOf_59 (by decide) ?_
            refine lv_icmp_eq (tgt := 76) hx hb dX12_partOf_61 (by decide) (fun c181 => ?_) (fun c181 => ?_)
            · exact absurd c181 (fun q => hn16 (hw172.2.symm.trans q))
            · have b182 : kb 17 v173 22 := kr_nel c181 b175 kc_16 (by decide)
              refine lv_iload_n hx hb dX12_partOf_64 rfl (lv_at hl 1 rfl) ?_
              refine lv_bipush (v := 17) hx hb dX12_partOf_65 (by decide) ?_
              refine lv_icmp_eq (tgt := 76) hx hb dX12_partOf_67 (by decide) (fun c183 => ?_) (fun c183 => ?_)
              · exact absurd c183 (fun q => hn17 (hw172.2.symm.trans q))
              · have b184 : kb 18 v173 22 := kr_nel c183 b182 kc_17 (by decide)
                refine lv_iload_n hx hb dX12_partOf_70 rfl (lv_at hl 1 rfl) ?_
                refine lv_bipush (v := 22) hx hb dX12_partOf_71 (by decide) ?_
                refine lv_icmp_ne (tgt := 100) hx hb dX12_partOf_73 (by decide) (fun c185 => ?_) (fun c185 => ?_)
                · have b186 : kb 18 v173 21 := kr_neh c185 b184 kc_22 (by decide)
                  refine lv_iload_n hx hb dX12_partOf_100 rfl (lv_at hl 3 rfl) ?_
                  refine lv_if_eq (tgt := 111) hx hb dX12_partOf_101 (by decide) (fun c187 => ?_) (fun c187 => ?_)
                  · have b188 : kb 0 lv 0 := kb_eq c187 kc_0
                    refine lv_lconst (v := 0) hx hb dX12_partOf_111 (by decide) ?_
                    exact kL_ret (v := 0) hx hb hr hlocks hK hS dX12_partOf_112 f_179 hP hD ⟨(kbl_w kcl_0 (by decide) (by decide)), hI, hE, (by rw [(show f_179 22 = t176 from by rw [← ef_179]; rfl), hg178]; omega), (by show mRs lv (f 24) (v_ Ws) (f_179 24) (0 : Int64).toInt; rw [((show f_179 24 = u165 24 from by rw [← ef_179]; rfl).trans ((eE166 24 (by decide)).trans ecb.symm)), ← ecb]; exact (Or.inr ⟨(fun h => absurd (c187.symm.trans h.1) (by decide +kernel)), rfl, (by decide +kernel)⟩))⟩
                  · have b189 : kb 1 lv 1 := kr_nel c187 blv kc_0 (by decide)
                    refine lv_aload_n hx hb dX12_partOf_104 rfl (lv_at hl 2 rfl) ?_
                    refine va_get (D := D) (ci := 12) (v := .int (f_179 24)) (C := RX12) (T := TX12) (N := 48) hx hb hg inC12 hown hK hP 0 rfl rfl 24 (by decide) (hg _ wt5_184) (fun _ h9 => h9) rfl dX12_partOf_105 ?_
                    refine k_top (z := cb) ((show f_179 24 = u165 24 from by rw [← ef_179]; rfl).trans ((eE166 24 (by decide)).trans ecb.symm)) ?_
                    refine lv_if_eq (tgt := 113) hx hb dX12_partOf_108 (by decide) (fun c190 => ?_) (fun c190 => ?_)
                    · have b191 : kb 0 cb 0 := kb_eq c190 kc_0
                      refine lv_iload_n hx hb dX12_partOf_113 rfl (lv_at hl 1 rfl) ?_
                      refine lv_bipush (v := 50) hx hb dX12_partOf_114 (by decide) ?_
                      refine lv_icmp_ne (tgt := 136) hx hb dX12_partOf_116 (by decide) (fun c192 => ?_) (fun c192 => ?_)
                      · refine lv_aload_n hx hb dX12_partOf_136 rfl (lv_at hl 2 rfl) ?_
                        refine va_get (D := D) (ci := 12) (v := .int (f_179 25)) (C := RX12) (T := TX12) (N := 48) hx hb hg inC12 hown hK hP 0 rfl rfl 25 (by decide) (hg _ wt5_185) (fun _ h9 => h9) rfl dX12_partOf_137 ?_
                        refine k_top (z := 1) ((show f_179 25 = u165 25 from by rw [← ef_179]; rfl).trans ((eE166 25 (by decide)).trans hp0.2.2.1)) ?_
                        refine lv_if_eq (tgt := 153) hx hb dX12_partOf_140 (by decide) (fun c193 => ?_) (fun c193 => ?_)
                        · exact kb_dj c193 kc_1 kc_0 (by decide)
                        · refine lv_aload_n hx hb dX12_partOf_143 rfl (lv_at hl 2 rfl) ?_
                          refine lv_iload_n hx hb dX12_partOf_144 rfl (lv_at hl 1 rfl) ?_
                          refine lv_iload_n hx hb dX12_partOf_145 rfl (lv_at hl 0 rfl) ?_
                          refine kI.callV (As := [.int v173, .int 0]) (rest := []) ⟨hx, hb, hml, hown, hg⟩ (n_orderValue l o r f_179 a g hI v173 0 (kb_w b186 (by decide) (by decide)) Ws ((wQ_fE hE hp3 (by decide) (by decide)).2.2 rfl) ⟨fun q => absurd (hw172.2.symm.trans q) hn16, fun q => q.elim (fun q => absurd (hw172.2.symm.trans q) hn17) (fun q => absurd (hw172.2.symm.trans q) hn22)⟩) (cwV 2 hg (kgV wt7_67 wt7_69 wp5_13 wt1_14 wt7_70) rfl rfl rfl (by decide +kernel) ⟨by dsimp only [rmD]; omega, by dsimp only [rmD]; omega⟩) hK hP hD hS hA mIs [] rfl (wr := []) rfl rfl rfl (fun i h => by cases h) 0 12 rfl rfl rfl hl.1 rfl (Nat.le_of_ble_eq_true rfl) dX12_partOf_146 ⟨Nat.le_refl _, Nat.le_refl _⟩ (fun v195 u196 H locs hw194 hP hD hS => ?_)
                          have hP : va_P D vwCl (mW K o r f_179 a g) H := hP
                          have hD : va_D A (mW K o r f_179 a g) := hD
                          refine lv_i2l hx hb dX12_partOf_149 rfl ?_
                          refine lv_topl (fun t197 et197 => ?_)
                          refine lv_goto (tgt := 163) hx hb dX12_partOf_150 (by decide) ?_
                          exact kL_ret (v := t197) hx hb hr hlocks hK hS dX12_partOf_163 f_179 hP hD ⟨(kbl_any t197), hI, hE, (by rw [(show f_179 22 = t176 from by rw [← ef_179]; rfl), hg178]; omega), (by show mRs lv (f 24) (v_ Ws) (f_179 24) (t197 : Int64).toInt; rw [((show f_179 24 = u165 24 from by rw [← ef_179]; rfl).trans ((eE166 24 (by decide)).trans ecb.symm)), ← ecb]; exact (Or.inl ⟨(kb_11 b189), c190, Or.inl ⟨(by rw [hj2, lf_word hnk rfl, (show (t197 : Int64).toInt = Ws (wIx true (T i) (T (i + 1))) from by rw [et197, kt_i2l]; exact (by have w1 := hw194.2; rw [show mpL.getD v173.toInt.toNat 0 = T i from by rw [hw172.2]; exact hct.symm, wx_p (hn3 (hp2 i) hct hc1 hc2 hn16 hn17 hn22) 0 (T (i + 1))] at w1; exact w1))]), c190, (by rw [(show (t197 : Int64).toInt = Ws (wIx true (T i) (T (i + 1))) from by rw [et197, kt_i2l]; exact (by have w1 := hw194.2; rw [show mpL.getD v173.toInt.toNat 0 = T i from by rw [hw172.2]; exact hct.symm, wx_p (hn3 (hp2 i) hct hc1 hc2 hn16 hn17 hn22) 0 (T (i + 1))] at w1; exact w1))]; exact hp3.1 _)⟩⟩))⟩
                      · exact kb_dj c192 b186 kc_50 (by decide)
                    · have b198 : kb 1 cb 1 := kr_nel c190 b1 kc_0 (by decide)
                      refine lv_lconst (v := 0) hx hb dX12_partOf_111 (by decide) ?_
                      exact kL_ret (v := 0) hx hb hr hlocks hK hS dX12_partOf_112 f_179 hP hD ⟨(kbl_w kcl_0 (by decide) (by decide)), hI, hE, (by rw [(show f_179 22 = t176 from by rw [← ef_179]; rfl), hg178]; omega), (by show mRs lv (f 24) (v_ Ws) (f_179 24) (0 : Int64).toInt; rw [((show f_179 24 = u165 24 from by rw [← ef_179]; rfl).trans ((eE166 24 (by decide)).trans ecb.symm)), ← ecb]; exact (Or.inr ⟨(fun h => c190 h.2), rfl, (by decide +kernel)⟩))⟩
                · exact absurd c185 (fun q => hn22 (hw172.2.symm.trans q))
        · exact kb_nsame c171 kc_0 kc_0
    · have hc50 := nm_50 (hp2 (i + 1)) h2
      rcases nm_o (hp2 i) h1 with ⟨hck, hnk, hct⟩ | ⟨hck, hnk, hct⟩ | ⟨hck, hnk, hct⟩
      · have b199 : kb 0 c22 2799 := kb_go (eS_fE hE hp0 (by decide) (by decide)) (mC_lt (eS_fE hE hp0 (by decide) (by decide)) (ne_0 hck (by decide +kernel))) hg0
        refine lv_aload_n hx hb dX12_partOf_0 rfl (lv_at hl 0 rfl) ?_
        refine lv_bipush (v := 91) hx hb dX12_partOf_1 (by decide) ?_
        refine kN.callS (As := [.int 91]) (rest := [.ref o]) ⟨hx, hb, hml, hown, hg⟩ (m_sign l 91 (kb_w kc_91 (by decide) (by decide))) (va_cwS 1 hg (kgS wt6_220 wt6_221 wt1_14 wt6_222) rfl rfl rfl (by decide +kernel) ⟨by dsimp only [rmD]; omega, by dsimp only [rmD]; omega⟩) hP hS rfl hl.1 rfl (Nat.le_of_ble_eq_true rfl) dX12_partOf_3 ⟨Nat.le_refl _, Nat.le_refl _⟩ (fun v201 H locs hw200 hP hS => ?_)
        refine k_top (z := 191) (Int32.toInt_inj.mp (hw200.2.trans (by decide +kernel))) ?_
        refine kI.callV (As := [.int 191]) (rest := []) ⟨hx, hb, hml, hown, hg⟩ (m_passes0 l o r f a g hI 191 (kb_w kc_191 (by decide) (by decide)) t (i) true (eS_fE hE hp0 (by decide) (by decide)) (by rw [ec22.symm]; exact hg0)) (cwV 1 hg (kgV wt7_63 wt7_65 wp5_12 wt1_14 wt7_66) rfl rfl rfl (by decide +kernel) ⟨by dsimp only [rmD]; omega, by dsimp only [rmD]; omega⟩) hK hP hD hS hA mIs [] rfl (wr := []) rfl rfl rfl (fun i h => by cases h) 0 12 rfl rfl rfl hl.1 rfl (Nat.le_of_ble_eq_true rfl) dX12_partOf_6 ⟨Nat.le_refl _, Nat.le_refl _⟩ (fun v204 u205 H locs hw203 hP hD hS => ?_)
        have hP : va_P D vwCl (mW K o r u205 a g) H := hP
        have hD : va_D A (mW K o r u205 a g) := hD
        have hI : mI u205 a := hw203.2.1
        have eE206 : fE [22] f u205 := hw203.2.2.1
        have hE : fE [22, 24] f u205 := fE_tr hE (fE_w (by decide) eE206)
        have hz207 := pass_n hw203.2.2.2 (fun q => absurd (hck.symm.trans q) (by decide +kernel))
        refine k_top (z := 0) hz207.1 ?_
        obtain ⟨gv208, egv208⟩ : ∃ z : Int32, z = u205 22 := ⟨_, rfl⟩
        have hg209 : gv208.toInt = 400 * (t : Int) + ((i : Nat) : Int) := by rw [egv208]; exact hz207.2
        have b210 : kb 0 gv208 2799 := kb_go (eS_fE hE hp0 (by decide) (by decide)) (mC_lt (eS_fE hE hp0 (by decide) (by decide)) (ne_0 hck (by decide +kernel))) hg209
        refine lv_if_eq (tgt := 30) hx hb dX12_partOf_9 (by decide) (fun c211 => ?_) (fun c211 => ?_)
        · refine lv_aload_n hx hb dX12_partOf_30 rfl (lv_at hl 0 rfl) ?_
          refine lv_aload_n hx hb dX12_partOf_31 rfl (lv_at hl 0 rfl) ?_
          refine va_get (D := D) (ci := 12) (v := .int (u205 22)) (C := RX12) (T := TX12) (N := 48) hx hb hg inC12 hown hK hP 0 rfl rfl 22 (by decide) (hg _ wt5_182) (fun _ h9 => h9) rfl dX12_partOf_32 ?_
          refine k_top (z := gv208) egv208.symm ?_
          refine kI.callV (As := [.int gv208]) (rest := []) ⟨hx, hb, hml, hown, hg⟩ (m_codeAt l o r u205 a g hI gv208  t (i) true (eS_fE hE hp0 (by decide) (by decide)) hg209) (cwV 1 hg (kgV wt7_47 wt7_49 wp5_8 wt1_14 wt7_50) rfl rfl rfl (by decide +kernel) ⟨by dsimp only [rmD]; omega, by dsimp only [rmD]; omega⟩) hK hP hD hS hA mIs [] rfl (wr := []) rfl rfl rfl (fun i h => by cases h) 0 12 rfl rfl rfl hl.1 rfl (Nat.le_of_ble_eq_true rfl) dX12_partOf_35 ⟨Nat.le_refl _, Nat.le_refl _⟩ (fun v213 u214 H locs hw212 hP hD hS => ?_)
          have hP : va_P D vwCl (mW K o r u205 a g) H := hP
          have hD : va_D A (mW K o r u205 a g) := hD
          refine k_top (z := 16) (hw212.2.trans hck) ?_
          refine lv_istore_n (lv' := [(2, .int 16), (0, .ref o), (1, .int lv)]) hx hb dX12_partOf_38 rfl hl (by decide) rfl (fun ls hl => ?_)
          refine lv_iconst (v := 0) hx hb dX12_partOf_39 (by decide) ?_
          refine lv_istore_n (lv' := [(3, .int 0), (2, .int 16), (0, .ref o), (1, .int lv)]) hx hb dX12_partOf_40 rfl hl (by decide) rfl (fun ls hl => ?_)
          refine lv_aload_n hx hb dX12_partOf_41 rfl (lv_at hl 2 rfl) ?_
          refine lv_dup hx hb dX12_partOf_42 rfl ?_
          refine va_get (D := D) (ci := 12) (v := .int (u205 22)) (C := RX12) (T := TX12) (N := 48) hx hb hg inC12 hown hK hP 0 rfl rfl 22 (by decide) (hg _ wt5_182) (fun _ h9 => h9) rfl dX12_partOf_43 ?_
          refine k_top (z := gv208) egv208.symm ?_
          refine lv_iconst (v := 1) hx hb dX12_partOf_46 (by decide) ?_
          refine lv_iadd hx hb dX12_partOf_47 ?_
          refine lv_topi (fun t215 et215 => ?_)
          have b216 : kb 1 t215 2800 := kb_eq et215 (kb_add b210 kc_1 (by decide) (by decide))
          have qt215 : t215.toInt = gv208.toInt + 1 := by rw [et215]; exact kt_addc b210 kc_1 (by decide) (by decide)
          have hg217 : t215.toInt = 400 * (t : Int) + ((i + 1 : Nat) : Int) := by rw [qt215, hg209]; omega
          have b218 : kb 0 t215 2799 := kb_go (eS_fE hE hp0 (by decide) (by decide)) (mC_lt (eS_fE hE hp0 (by decide) (by decide)) (ne_0 hc50 (by decide +kernel))) hg217
          refine va_put (D := D) (ci := 12) (v := .int t215) (ty := .int) (C := RX12) (T := TX12) (N := 48) hx hb hg inC12 tyX12 tyX12_ok nmX12 hown hK hP hD hS 0 rfl rfl 22 (by decide) (hg _ wt5_182) (fun _ h9 => h9) rfl (by decide +kernel) rfl rfl (Nat.le_of_ble_eq_true rfl) dX12_partOf_48 (fun H locs hP hD hS => ?_)
          have hP : va_P D vwCl (mW K o r (upd u205 22 t215) a g) H := hP
          have hD : va_D A (mW K o r (upd u205 22 t215) a g) := hD
          refine k_gen (P := fun z => va_P D vwCl (mW K o r z a g) H ∧ va_D A (mW K o r z a g) ∧ (mI z a) ∧ (fE [22, 24] f z)) (upd u205 22 t215) ⟨hP, hD, (mI_f hI (fI_st hI.1 22 (kb_any _) (by decide) (by decide))), (fE_f hE (by decide))⟩ (fun f_219 ef_219 hq => ?_)
          obtain ⟨hP, hD, hI, hE⟩ := hq
          refine lv_aload_n hx hb dX12_partOf_51 rfl (lv_at hl 2 rfl) ?_
          refine va_get (D := D) (ci := 12) (v := .int (f_219 25)) (C := RX12) (T := TX12) (N := 48) hx hb hg inC12 hown hK hP 0 rfl rfl 25 (by decide) (hg _ wt5_185) (fun _ h9 => h9) rfl dX12_partOf_52 ?_
          refine k_top (z := 1) ((show f_219 25 = u205 25 from by rw [← ef_219]; rfl).trans ((eE206 25 (by decide)).trans hp0.2.2.1)) ?_
          refine lv_if_eq (tgt := 100) hx hb dX12_partOf_55 (by decide) (fun c220 => ?_) (fun c220 => ?_)
          · exact kb_dj c220 kc_1 kc_0 (by decide)
          · refine lv_iload_n hx hb dX12_partOf_58 rfl (lv_at hl 1 rfl) ?_
            refine lv_bipush (v := 16) hx hb dX12_partOf_59 (by decide) ?_
            refine lv_icmp_eq (tgt := 76) hx hb dX12_partOf_61 (by decide) (fun c221 => ?_) (fun c221 => ?_)
            · refine lv_aload_n hx hb dX12_partOf_76 rfl (lv_at hl 2 rfl) ?_
              refine va_get (D := D) (ci := 12) (v := .ref (r 2)) (C := RX12) (T := TX12) (N := 48) hx hb hg inC12 hown hK hP 0 rfl rfl 2 (by decide) (hg _ wt5_162) (fun _ h9 => h9) rfl dX12_partOf_77 ?_
              refine lv_sipush (v := 2914) hx hb dX12_partOf_80 (by decide) ?_
              refine lv_aload_n hx hb dX12_partOf_83 rfl (lv_at hl 2 rfl) ?_
              refine va_get (D := D) (ci := 12) (v := .int (f_219 22)) (C := RX12) (T := TX12) (N := 48) hx hb hg inC12 hown hK hP 0 rfl rfl 22 (by decide) (hg _ wt5_182) (fun _ h9 => h9) rfl dX12_partOf_84 ?_
              refine k_top (z := t215) (show f_219 22 = t215 from by rw [← ef_219]; rfl) ?_
              refine lv_iadd hx hb dX12_partOf_87 ?_
              refine lv_topi (fun t222 et222 => ?_)
              have b223 : kb 2914 t222 5713 := kb_eq et222 (kb_add kc_2914 b218 (by decide) (by decide))
              have qt222 : t222.toInt = 2914 + t215.toInt := by rw [et222]; exact kt_cadd kc_2914 b218 (by decide) (by decide)
              refine va_iald hx hb hK hP 2 0 rfl rfl (kb_in b223 (by decide) (by decide)) dX12_partOf_88 ?_
              refine lv_topi (fun t224 et224 => ?_)
              refine lv_istore_n (lv' := [(3, .int t224), (2, .int 16), (0, .ref o), (1, .int lv)]) hx hb dX12_partOf_89 rfl hl (by decide) rfl (fun ls hl => ?_)
              refine lv_aload_n hx hb dX12_partOf_90 rfl (lv_at hl 2 rfl) ?_
              refine lv_dup hx hb dX12_partOf_91 rfl ?_
              refine va_get (D := D) (ci := 12) (v := .int (f_219 22)) (C := RX12) (T := TX12) (N := 48) hx hb hg inC12 hown hK hP 0 rfl rfl 22 (by decide) (hg _ wt5_182) (fun _ h9 => h9) rfl dX12_partOf_92 ?_
              refine k_top (z := t215) (show f_219 22 = t215 from by rw [← ef_219]; rfl) ?_
              refine lv_iconst (v := 1) hx hb dX12_partOf_95 (by decide) ?_
              refine lv_iadd hx hb dX12_partOf_96 ?_
              refine lv_topi (fun t225 et225 => ?_)
              have b226 : kb 1 t225 2800 := kb_eq et225 (kb_add b218 kc_1 (by decide) (by decide))
              have qt225 : t225.toInt = t215.toInt + 1 := by rw [et225]; exact kt_addc b218 kc_1 (by decide) (by decide)
              have hg227 : t225.toInt = 400 * (t : Int) + ((i + 1 + 1 : Nat) : Int) := by rw [qt225, hg217]; omega
              refine va_put (D := D) (ci := 12) (v := .int t225) (ty := .int) (C := RX12) (T := TX12) (N := 48) hx hb hg inC12 tyX12 tyX12_ok nmX12 hown hK hP hD hS 0 rfl rfl 22 (by decide) (hg _ wt5_182) (fun _ h9 => h9) rfl (by decide +kernel) rfl rfl (Nat.le_of_ble_eq_true rfl) dX12_partOf_97 (fun H locs hP hD hS => ?_)
              have hP : va_P D vwCl (mW K o r (upd f_219 22 t225) a g) H := hP
              have hD : va_D A (mW K o r (upd f_219 22 t225) a g) := hD
              refine k_gen (P := fun z => va_P D vwCl (mW K o r z a g) H ∧ va_D A (mW K o r z a g) ∧ (mI z a) ∧ (fE [22, 24] f z)) (upd f_219 22 t225) ⟨hP, hD, (mI_f hI (fI_st hI.1 22 (kb_any _) (by decide) (by decide))), (fE_f hE (by decide))⟩ (fun f_228 ef_228 hq => ?_)
              obtain ⟨hP, hD, hI, hE⟩ := hq
              refine lv_iload_n hx hb dX12_partOf_100 rfl (lv_at hl 3 rfl) ?_
              refine lv_if_eq (tgt := 111) hx hb dX12_partOf_101 (by decide) (fun c229 => ?_) (fun c229 => ?_)
              · have b230 : kb 0 lv 0 := kb_eq c229 kc_0
                refine lv_lconst (v := 0) hx hb dX12_partOf_111 (by decide) ?_
                exact kL_ret (v := 0) hx hb hr hlocks hK hS dX12_partOf_112 f_228 hP hD ⟨(kbl_w kcl_0 (by decide) (by decide)), hI, hE, (by rw [(show f_228 22 = t225 from by rw [← ef_228]; rfl), hg227]; omega), (by show mRs lv (f 24) (v_ Ws) (f_228 24) (0 : Int64).toInt; rw [((show f_228 24 = f_219 24 from by rw [← ef_228]; rfl).trans ((show f_219 24 = u205 24 from by rw [← ef_219]; rfl).trans ((eE206 24 (by decide)).trans ecb.symm))), ← ecb]; exact (Or.inr ⟨(fun h => absurd (c229.symm.trans h.1) (by decide +kernel)), rfl, (by decide +kernel)⟩))⟩
              · have b231 : kb 1 lv 1 := kr_nel c229 blv kc_0 (by decide)
                refine lv_aload_n hx hb dX12_partOf_104 rfl (lv_at hl 2 rfl) ?_
                refine va_get (D := D) (ci := 12) (v := .int (f_228 24)) (C := RX12) (T := TX12) (N := 48) hx hb hg inC12 hown hK hP 0 rfl rfl 24 (by decide) (hg _ wt5_184) (fun _ h9 => h9) rfl dX12_partOf_105 ?_
                refine k_top (z := cb) ((show f_228 24 = f_219 24 from by rw [← ef_228]; rfl).trans ((show f_219 24 = u205 24 from by rw [← ef_219]; rfl).trans ((eE206 24 (by decide)).trans ecb.symm))) ?_
                refine lv_if_eq (tgt := 113) hx hb dX12_partOf_108 (by decide) (fun c232 => ?_) (fun c232 => ?_)
                · have b233 : kb 0 cb 0 := kb_eq c232 kc_0
                  refine lv_iload_n hx hb dX12_partOf_113 rfl (lv_at hl 1 rfl) ?_
                  refine lv_bipush (v := 50) hx hb dX12_partOf_114 (by decide) ?_
                  refine lv_icmp_ne (tgt := 136) hx hb dX12_partOf_116 (by decide) (fun c234 => ?_) (fun c234 => ?_)
                  · refine lv_aload_n hx hb dX12_partOf_136 rfl (lv_at hl 2 rfl) ?_
                    refine va_get (D := D) (ci := 12) (v := .int (f_228 25)) (C := RX12) (T := TX12) (N := 48) hx hb hg inC12 hown hK hP 0 rfl rfl 25 (by decide) (hg _ wt5_185) (fun _ h9 => h9) rfl dX12_partOf_137 ?_
                    refine k_top (z := 1) ((show f_228 25 = f_219 25 from by rw [← ef_228]; rfl).trans ((show f_219 25 = u205 25 from by rw [← ef_219]; rfl).trans ((eE206 25 (by decide)).trans hp0.2.2.1))) ?_
                    refine lv_if_eq (tgt := 153) hx hb dX12_partOf_140 (by decide) (fun c235 => ?_) (fun c235 => ?_)
                    · exact kb_dj c235 kc_1 kc_0 (by decide)
                    · refine lv_aload_n hx hb dX12_partOf_143 rfl (lv_at hl 2 rfl) ?_
                      refine lv_iload_n hx hb dX12_partOf_144 rfl (lv_at hl 1 rfl) ?_
                      refine lv_iload_n hx hb dX12_partOf_145 rfl (lv_at hl 0 rfl) ?_
                      refine kI.callV (As := [.int 16, .int t224]) (rest := []) ⟨hx, hb, hml, hown, hg⟩ (n_orderValue l o r f_228 a g hI 16 t224 (kb_w kc_16 (by decide) (by decide)) Ws ((wQ_fE hE hp3 (by decide) (by decide)).2.2 rfl) ⟨fun _ => (nm_b (hp2 (i + 1)) h2 (show t224 = mV (a 2) t (i + 1) from by rw [et224, mV_at (k := a 2) (t := t) (i := i + 1) (by have w1 := qt222; omega)]) (by rw [hct]; exact if_pos rfl)), fun q => absurd q (by decide +kernel)⟩) (cwV 2 hg (kgV wt7_67 wt7_69 wp5_13 wt1_14 wt7_70) rfl rfl rfl (by decide +kernel) ⟨by dsimp only [rmD]; omega, by dsimp only [rmD]; omega⟩) hK hP hD hS hA mIs [] rfl (wr := []) rfl rfl rfl (fun i h => by cases h) 0 12 rfl rfl rfl hl.1 rfl (Nat.le_of_ble_eq_true rfl) dX12_partOf_146 ⟨Nat.le_refl _, Nat.le_refl _⟩ (fun v237 u238 H locs hw236 hP hD hS => ?_)
                      have hP : va_P D vwCl (mW K o r f_228 a g) H := hP
                      have hD : va_D A (mW K o r f_228 a g) := hD
                      refine lv_i2l hx hb dX12_partOf_149 rfl ?_
                      refine lv_topl (fun t239 et239 => ?_)
                      refine lv_goto (tgt := 163) hx hb dX12_partOf_150 (by decide) ?_
                      exact kL_ret (v := t239) hx hb hr hlocks hK hS dX12_partOf_163 f_228 hP hD ⟨(kbl_any t239), hI, hE, (by rw [(show f_228 22 = t225 from by rw [← ef_228]; rfl), hg227]; omega), (by show mRs lv (f 24) (v_ Ws) (f_228 24) (t239 : Int64).toInt; rw [((show f_228 24 = f_219 24 from by rw [← ef_228]; rfl).trans ((show f_219 24 = u205 24 from by rw [← ef_219]; rfl).trans ((eE206 24 (by decide)).trans ecb.symm))), ← ecb]; exact (Or.inl ⟨(kb_11 b231), c232, Or.inl ⟨(by rw [hj2, lf_word hnk rfl, (show (t239 : Int64).toInt = Ws (wIx true (T i) (T (i + 1))) from by rw [et239, kt_i2l]; exact (by have w1 := hw236.2; rw [show mpL.getD (16 : Int32).toInt.toNat 0 = T i from by rw [hct]; decide +kernel, show t224 = T (i + 1) from by rw [et224, mV_at (k := a 2) (t := t) (i := i + 1) (by have w1 := qt222; omega)]; exact nm_v (hp2 (i + 1)) h2] at w1; exact w1))]), c232, (by rw [(show (t239 : Int64).toInt = Ws (wIx true (T i) (T (i + 1))) from by rw [et239, kt_i2l]; exact (by have w1 := hw236.2; rw [show mpL.getD (16 : Int32).toInt.toNat 0 = T i from by rw [hct]; decide +kernel, show t224 = T (i + 1) from by rw [et224, mV_at (k := a 2) (t := t) (i := i + 1) (by have w1 := qt222; omega)]; exact nm_v (hp2 (i + 1)) h2] at w1; exact w1))]; exact hp3.1 _)⟩⟩))⟩
                  · exact kb_dj c234 kc_16 kc_50 (by decide)
                · have b240 : kb 1 cb 1 := kr_nel c232 b1 kc_0 (by decide)
                  refine lv_lconst (v := 0) hx hb dX12_partOf_111 (by decide) ?_
                  exact kL_ret (v := 0) hx hb hr hlocks hK hS dX12_partOf_112 f_228 hP hD ⟨(kbl_w kcl_0 (by decide) (by decide)), hI, hE, (by rw [(show f_228 22 = t225 from by rw [← ef_228]; rfl), hg227]; omega), (by show mRs lv (f 24) (v_ Ws) (f_228 24) (0 : Int64).toInt; rw [((show f_228 24 = f_219 24 from by rw [← ef_228]; rfl).trans ((show f_219 24 = u205 24 from by rw [← ef_219]; rfl).trans ((eE206 24 (by decide)).trans ecb.symm))), ← ecb]; exact (Or.inr ⟨(fun h => c232 h.2), rfl, (by decide +kernel)⟩))⟩
            · exact kb_nsame c221 kc_16 kc_16
        · exact kb_nsame c211 kc_0 kc_0
      · have b241 : kb 0 c22 2799 := kb_go (eS_fE hE hp0 (by decide) (by decide)) (mC_lt (eS_fE hE hp0 (by decide) (by decide)) (ne_0 hck (by decide +kernel))) hg0
        refine lv_aload_n hx hb dX12_partOf_0 rfl (lv_at hl 0 rfl) ?_
        refine lv_bipush (v := 91) hx hb dX12_partOf_1 (by decide) ?_
        refine kN.callS (As := [.int 91]) (rest := [.ref o]) ⟨hx, hb, hml, hown, hg⟩ (m_sign l 91 (kb_w kc_91 (by decide) (by decide))) (va_cwS 1 hg (kgS wt6_220 wt6_221 wt1_14 wt6_222) rfl rfl rfl (by decide +kernel) ⟨by dsimp only [rmD]; omega, by dsimp only [rmD]; omega⟩) hP hS rfl hl.1 rfl (Nat.le_of_ble_eq_true rfl) dX12_partOf_3 ⟨Nat.le_refl _, Nat.le_refl _⟩ (fun v243 H locs hw242 hP hS => ?_)
        refine k_top (z := 191) (Int32.toInt_inj.mp (hw242.2.trans (by decide +kernel))) ?_
        refine kI.callV (As := [.int 191]) (rest := []) ⟨hx, hb, hml, hown, hg⟩ (m_passes0 l o r f a g hI 191 (kb_w kc_191 (by decide) (by decide)) t (i) true (eS_fE hE hp0 (by decide) (by decide)) (by rw [ec22.symm]; exact hg0)) (cwV 1 hg (kgV wt7_63 wt7_65 wp5_12 wt1_14 wt7_66) rfl rfl rfl (by decide +kernel) ⟨by dsimp only [rmD]; omega, by dsimp only [rmD]; omega⟩) hK hP hD hS hA mIs [] rfl (wr := []) rfl rfl rfl (fun i h => by cases h) 0 12 rfl rfl rfl hl.1 rfl (Nat.le_of_ble_eq_true rfl) dX12_partOf_6 ⟨Nat.le_refl _, Nat.le_refl _⟩ (fun v246 u247 H locs hw245 hP hD hS => ?_)
        have hP : va_P D vwCl (mW K o r u247 a g) H := hP
        have hD : va_D A (mW K o r u247 a g) := hD
        have hI : mI u247 a := hw245.2.1
        have eE248 : fE [22] f u247 := hw245.2.2.1
        have hE : fE [22, 24] f u247 := fE_tr hE (fE_w (by decide) eE248)
        have hz249 := pass_n hw245.2.2.2 (fun q => absurd (hck.symm.trans q) (by decide +kernel))
        refine k_top (z := 0) hz249.1 ?_
        obtain ⟨gv250, egv250⟩ : ∃ z : Int32, z = u247 22 := ⟨_, rfl⟩
        have hg251 : gv250.toInt = 400 * (t : Int) + ((i : Nat) : Int) := by rw [egv250]; exact hz249.2
        have b252 : kb 0 gv250 2799 := kb_go (eS_fE hE hp0 (by decide) (by decide)) (mC_lt (eS_fE hE hp0 (by decide) (by decide)) (ne_0 hck (by decide +kernel))) hg251
        refine lv_if_eq (tgt := 30) hx hb dX12_partOf_9 (by decide) (fun c253 => ?_) (fun c253 => ?_)
        · refine lv_aload_n hx hb dX12_partOf_30 rfl (lv_at hl 0 rfl) ?_
          refine lv_aload_n hx hb dX12_partOf_31 rfl (lv_at hl 0 rfl) ?_
          refine va_get (D := D) (ci := 12) (v := .int (u247 22)) (C := RX12) (T := TX12) (N := 48) hx hb hg inC12 hown hK hP 0 rfl rfl 22 (by decide) (hg _ wt5_182) (fun _ h9 => h9) rfl dX12_partOf_32 ?_
          refine k_top (z := gv250) egv250.symm ?_
          refine kI.callV (As := [.int gv250]) (rest := []) ⟨hx, hb, hml, hown, hg⟩ (m_codeAt l o r u247 a g hI gv250  t (i) true (eS_fE hE hp0 (by decide) (by decide)) hg251) (cwV 1 hg (kgV wt7_47 wt7_49 wp5_8 wt1_14 wt7_50) rfl rfl rfl (by decide +kernel) ⟨by dsimp only [rmD]; omega, by dsimp only [rmD]; omega⟩) hK hP hD hS hA mIs [] rfl (wr := []) rfl rfl rfl (fun i h => by cases h) 0 12 rfl rfl rfl hl.1 rfl (Nat.le_of_ble_eq_true rfl) dX12_partOf_35 ⟨Nat.le_refl _, Nat.le_refl _⟩ (fun v255 u256 H locs hw254 hP hD hS => ?_)
          have hP : va_P D vwCl (mW K o r u247 a g) H := hP
          have hD : va_D A (mW K o r u247 a g) := hD
          refine k_top (z := 17) (hw254.2.trans hck) ?_
          refine lv_istore_n (lv' := [(2, .int 17), (0, .ref o), (1, .int lv)]) hx hb dX12_partOf_38 rfl hl (by decide) rfl (fun ls hl => ?_)
          refine lv_iconst (v := 0) hx hb dX12_partOf_39 (by decide) ?_
          refine lv_istore_n (lv' := [(3, .int 0), (2, .int 17), (0, .ref o), (1, .int lv)]) hx hb dX12_partOf_40 rfl hl (by decide) rfl (fun ls hl => ?_)
          refine lv_aload_n hx hb dX12_partOf_41 rfl (lv_at hl 2 rfl) ?_
          refine lv_dup hx hb dX12_partOf_42 rfl ?_
          refine va_get (D := D) (ci := 12) (v := .int (u247 22)) (C := RX12) (T := TX12) (N := 48) hx hb hg inC12 hown hK hP 0 rfl rfl 22 (by decide) (hg _ wt5_182) (fun _ h9 => h9) rfl dX12_partOf_43 ?_
          refine k_top (z := gv250) egv250.symm ?_
          refine lv_iconst (v := 1) hx hb dX12_partOf_46 (by decide) ?_
          refine lv_iadd hx hb dX12_partOf_47 ?_
          refine lv_topi (fun t257 et257 => ?_)
          have b258 : kb 1 t257 2800 := kb_eq et257 (kb_add b252 kc_1 (by decide) (by decide))
          have qt257 : t257.toInt = gv250.toInt + 1 := by rw [et257]; exact kt_addc b252 kc_1 (by decide) (by decide)
          have hg259 : t257.toInt = 400 * (t : Int) + ((i + 1 : Nat) : Int) := by rw [qt257, hg251]; omega
          have b260 : kb 0 t257 2799 := kb_go (eS_fE hE hp0 (by decide) (by decide)) (mC_lt (eS_fE hE hp0 (by decide) (by decide)) (ne_0 hc50 (by decide +kernel))) hg259
          refine va_put (D := D) (ci := 12) (v := .int t257) (ty := .int) (C := RX12) (T := TX12) (N := 48) hx hb hg inC12 tyX12 tyX12_ok nmX12 hown hK hP hD hS 0 rfl rfl 22 (by decide) (hg _ wt5_182) (fun _ h9 => h9) rfl (by decide +kernel) rfl rfl (Nat.le_of_ble_eq_true rfl) dX12_partOf_48 (fun H locs hP hD hS => ?_)
          have hP : va_P D vwCl (mW K o r (upd u247 22 t257) a g) H := hP
          have hD : va_D A (mW K o r (upd u247 22 t257) a g) := hD
          refine k_gen (P := fun z => va_P D vwCl (mW K o r z a g) H ∧ va_D A (mW K o r z a g) ∧ (mI z a) ∧ (fE [22, 24] f z)) (upd u247 22 t257) ⟨hP, hD, (mI_f hI (fI_st hI.1 22 (kb_any _) (by decide) (by decide))), (fE_f hE (by decide))⟩ (fun f_261 ef_261 hq => ?_)
          obtain ⟨hP, hD, hI, hE⟩ := hq
          refine lv_aload_n hx hb dX12_partOf_51 rfl (lv_at hl 2 rfl) ?_
          refine va_get (D := D) (ci := 12) (v := .int (f_261 25)) (C := RX12) (T := TX12) (N := 48) hx hb hg inC12 hown hK hP 0 rfl rfl 25 (by decide) (hg _ wt5_185) (fun _ h9 => h9) rfl dX12_partOf_52 ?_
          refine k_top (z := 1) ((show f_261 25 = u247 25 from by rw [← ef_261]; rfl).trans ((eE248 25 (by decide)).trans hp0.2.2.1)) ?_
          refine lv_if_eq (tgt := 100) hx hb dX12_partOf_55 (by decide) (fun c262 => ?_) (fun c262 => ?_)
          · exact kb_dj c262 kc_1 kc_0 (by decide)
          · refine lv_iload_n hx hb dX12_partOf_58 rfl (lv_at hl 1 rfl) ?_
            refine lv_bipush (v := 16) hx hb dX12_partOf_59 (by decide) ?_
            refine lv_icmp_eq (tgt := 76) hx hb dX12_partOf_61 (by decide) (fun c263 => ?_) (fun c263 => ?_)
            · exact kb_dj c263 kc_17 kc_16 (by decide)
            · refine lv_iload_n hx hb dX12_partOf_64 rfl (lv_at hl 1 rfl) ?_
              refine lv_bipush (v := 17) hx hb dX12_partOf_65 (by decide) ?_
              refine lv_icmp_eq (tgt := 76) hx hb dX12_partOf_67 (by decide) (fun c264 => ?_) (fun c264 => ?_)
              · refine lv_aload_n hx hb dX12_partOf_76 rfl (lv_at hl 2 rfl) ?_
                refine va_get (D := D) (ci := 12) (v := .ref (r 2)) (C := RX12) (T := TX12) (N := 48) hx hb hg inC12 hown hK hP 0 rfl rfl 2 (by decide) (hg _ wt5_162) (fun _ h9 => h9) rfl dX12_partOf_77 ?_
                refine lv_sipush (v := 2914) hx hb dX12_partOf_80 (by decide) ?_
                refine lv_aload_n hx hb dX12_partOf_83 rfl (lv_at hl 2 rfl) ?_
                refine va_get (D := D) (ci := 12) (v := .int (f_261 22)) (C := RX12) (T := TX12) (N := 48) hx hb hg inC12 hown hK hP 0 rfl rfl 22 (by decide) (hg _ wt5_182) (fun _ h9 => h9) rfl dX12_partOf_84 ?_
                refine k_top (z := t257) (show f_261 22 = t257 from by rw [← ef_261]; rfl) ?_
                refine lv_iadd hx hb dX12_partOf_87 ?_
                refine lv_topi (fun t265 et265 => ?_)
                have b266 : kb 2914 t265 5713 := kb_eq et265 (kb_add kc_2914 b260 (by decide) (by decide))
                have qt265 : t265.toInt = 2914 + t257.toInt := by rw [et265]; exact kt_cadd kc_2914 b260 (by decide) (by decide)
                refine va_iald hx hb hK hP 2 0 rfl rfl (kb_in b266 (by decide) (by decide)) dX12_partOf_88 ?_
                refine lv_topi (fun t267 et267 => ?_)
                refine lv_istore_n (lv' := [(3, .int t267), (2, .int 17), (0, .ref o), (1, .int lv)]) hx hb dX12_partOf_89 rfl hl (by decide) rfl (fun ls hl => ?_)
                refine lv_aload_n hx hb dX12_partOf_90 rfl (lv_at hl 2 rfl) ?_
                refine lv_dup hx hb dX12_partOf_91 rfl ?_
                refine va_get (D := D) (ci := 12) (v := .int (f_261 22)) (C := RX12) (T := TX12) (N := 48) hx hb hg inC12 hown hK hP 0 rfl rfl 22 (by decide) (hg _ wt5_182) (fun _ h9 => h9) rfl dX12_partOf_92 ?_
                refine k_top (z := t257) (show f_261 22 = t257 from by rw [← ef_261]; rfl) ?_
                refine lv_iconst (v := 1) hx hb dX12_partOf_95 (by decide) ?_
                refine lv_iadd hx hb dX12_partOf_96 ?_
                refine lv_topi (fun t268 et268 => ?_)
                have b269 : kb 1 t268 2800 := kb_eq et268 (kb_add b260 kc_1 (by decide) (by decide))
                have qt268 : t268.toInt = t257.toInt + 1 := by rw [et268]; exact kt_addc b260 kc_1 (by decide) (by decide)
                have hg270 : t268.toInt = 400 * (t : Int) + ((i + 1 + 1 : Nat) : Int) := by rw [qt268, hg259]; omega
                refine va_put (D := D) (ci := 12) (v := .int t268) (ty := .int) (C := RX12) (T := TX12) (N := 48) hx hb hg inC12 tyX12 tyX12_ok nmX12 hown hK hP hD hS 0 rfl rfl 22 (by decide) (hg _ wt5_182) (fun _ h9 => h9) rfl (by decide +kernel) rfl rfl (Nat.le_of_ble_eq_true rfl) dX12_partOf_97 (fun H locs hP hD hS => ?_)
                have hP : va_P D vwCl (mW K o r (upd f_261 22 t268) a g) H := hP
                have hD : va_D A (mW K o r (upd f_261 22 t268) a g) := hD
                refine k_gen (P := fun z => va_P D vwCl (mW K o r z a g) H ∧ va_D A (mW K o r z a g) ∧ (mI z a) ∧ (fE [22, 24] f z)) (upd f_261 22 t268) ⟨hP, hD, (mI_f hI (fI_st hI.1 22 (kb_any _) (by decide) (by decide))), (fE_f hE (by decide))⟩ (fun f_271 ef_271 hq => ?_)
                obtain ⟨hP, hD, hI, hE⟩ := hq
                refine lv_iload_n hx hb dX12_partOf_100 rfl (lv_at hl 3 rfl) ?_
                refine lv_if_eq (tgt := 111) hx hb dX12_partOf_101 (by decide) (fun c272 => ?_) (fun c272 => ?_)
                · have b273 : kb 0 lv 0 := kb_eq c272 kc_0
                  refine lv_lconst (v := 0) hx hb dX12_partOf_111 (by decide) ?_
                  exact kL_ret (v := 0) hx hb hr hlocks hK hS dX12_partOf_112 f_271 hP hD ⟨(kbl_w kcl_0 (by decide) (by decide)), hI, hE, (by rw [(show f_271 22 = t268 from by rw [← ef_271]; rfl), hg270]; omega), (by show mRs lv (f 24) (v_ Ws) (f_271 24) (0 : Int64).toInt; rw [((show f_271 24 = f_261 24 from by rw [← ef_271]; rfl).trans ((show f_261 24 = u247 24 from by rw [← ef_261]; rfl).trans ((eE248 24 (by decide)).trans ecb.symm))), ← ecb]; exact (Or.inr ⟨(fun h => absurd (c272.symm.trans h.1) (by decide +kernel)), rfl, (by decide +kernel)⟩))⟩
                · have b274 : kb 1 lv 1 := kr_nel c272 blv kc_0 (by decide)
                  refine lv_aload_n hx hb dX12_partOf_104 rfl (lv_at hl 2 rfl) ?_
                  refine va_get (D := D) (ci := 12) (v := .int (f_271 24)) (C := RX12) (T := TX12) (N := 48) hx hb hg inC12 hown hK hP 0 rfl rfl 24 (by decide) (hg _ wt5_184) (fun _ h9 => h9) rfl dX12_partOf_105 ?_
                  refine k_top (z := cb) ((show f_271 24 = f_261 24 from by rw [← ef_271]; rfl).trans ((show f_261 24 = u247 24 from by rw [← ef_261]; rfl).trans ((eE248 24 (by decide)).trans ecb.symm))) ?_
                  refine lv_if_eq (tgt := 113) hx hb dX12_partOf_108 (by decide) (fun c275 => ?_) (fun c275 => ?_)
                  · have b276 : kb 0 cb 0 := kb_eq c275 kc_0
                    refine lv_iload_n hx hb dX12_partOf_113 rfl (lv_at hl 1 rfl) ?_
                    refine lv_bipush (v := 50) hx hb dX12_partOf_114 (by decide) ?_
                    refine lv_icmp_ne (tgt := 136) hx hb dX12_partOf_116 (by decide) (fun c277 => ?_) (fun c277 => ?_)
                    · refine lv_aload_n hx hb dX12_partOf_136 rfl (lv_at hl 2 rfl) ?_
                      refine va_get (D := D) (ci := 12) (v := .int (f_271 25)) (C := RX12) (T := TX12) (N := 48) hx hb hg inC12 hown hK hP 0 rfl rfl 25 (by decide) (hg _ wt5_185) (fun _ h9 => h9) rfl dX12_partOf_137 ?_
                      refine k_top (z := 1) ((show f_271 25 = f_261 25 from by rw [← ef_271]; rfl).trans ((show f_261 25 = u247 25 from by rw [← ef_261]; rfl).trans ((eE248 25 (by decide)).trans hp0.2.2.1))) ?_
                      refine lv_if_eq (tgt := 153) hx hb dX12_partOf_140 (by decide) (fun c278 => ?_) (fun c278 => ?_)
                      · exact kb_dj c278 kc_1 kc_0 (by decide)
                      · refine lv_aload_n hx hb dX12_partOf_143 rfl (lv_at hl 2 rfl) ?_
                        refine lv_iload_n hx hb dX12_partOf_144 rfl (lv_at hl 1 rfl) ?_
                        refine lv_iload_n hx hb dX12_partOf_145 rfl (lv_at hl 0 rfl) ?_
                        refine kI.callV (As := [.int 17, .int t267]) (rest := []) ⟨hx, hb, hml, hown, hg⟩ (n_orderValue l o r f_271 a g hI 17 t267 (kb_w kc_17 (by decide) (by decide)) Ws ((wQ_fE hE hp3 (by decide) (by decide)).2.2 rfl) ⟨fun q => absurd q (by decide +kernel), fun _ => (nm_b (hp2 (i + 1)) h2 (show t267 = mV (a 2) t (i + 1) from by rw [et267, mV_at (k := a 2) (t := t) (i := i + 1) (by have w1 := qt265; omega)]) (by rw [hct]; exact if_neg (by decide +kernel)))⟩) (cwV 2 hg (kgV wt7_67 wt7_69 wp5_13 wt1_14 wt7_70) rfl rfl rfl (by decide +kernel) ⟨by dsimp only [rmD]; omega, by dsimp only [rmD]; omega⟩) hK hP hD hS hA mIs [] rfl (wr := []) rfl rfl rfl (fun i h => by cases h) 0 12 rfl rfl rfl hl.1 rfl (Nat.le_of_ble_eq_true rfl) dX12_partOf_146 ⟨Nat.le_refl _, Nat.le_refl _⟩ (fun v280 u281 H locs hw279 hP hD hS => ?_)
                        have hP : va_P D vwCl (mW K o r f_271 a g) H := hP
                        have hD : va_D A (mW K o r f_271 a g) := hD
                        refine lv_i2l hx hb dX12_partOf_149 rfl ?_
                        refine lv_topl (fun t282 et282 => ?_)
                        refine lv_goto (tgt := 163) hx hb dX12_partOf_150 (by decide) ?_
                        exact kL_ret (v := t282) hx hb hr hlocks hK hS dX12_partOf_163 f_271 hP hD ⟨(kbl_any t282), hI, hE, (by rw [(show f_271 22 = t268 from by rw [← ef_271]; rfl), hg270]; omega), (by show mRs lv (f 24) (v_ Ws) (f_271 24) (t282 : Int64).toInt; rw [((show f_271 24 = f_261 24 from by rw [← ef_271]; rfl).trans ((show f_261 24 = u247 24 from by rw [← ef_261]; rfl).trans ((eE248 24 (by decide)).trans ecb.symm))), ← ecb]; exact (Or.inl ⟨(kb_11 b274), c275, Or.inl ⟨(by rw [hj2, lf_word hnk rfl, (show (t282 : Int64).toInt = Ws (wIx true (T i) (T (i + 1))) from by rw [et282, kt_i2l]; exact (by have w1 := hw279.2; rw [show mpL.getD (17 : Int32).toInt.toNat 0 = T i from by rw [hct]; decide +kernel, show t267 = T (i + 1) from by rw [et267, mV_at (k := a 2) (t := t) (i := i + 1) (by have w1 := qt265; omega)]; exact nm_v (hp2 (i + 1)) h2] at w1; exact w1))]), c275, (by rw [(show (t282 : Int64).toInt = Ws (wIx true (T i) (T (i + 1))) from by rw [et282, kt_i2l]; exact (by have w1 := hw279.2; rw [show mpL.getD (17 : Int32).toInt.toNat 0 = T i from by rw [hct]; decide +kernel, show t267 = T (i + 1) from by rw [et267, mV_at (k := a 2) (t := t) (i := i + 1) (by have w1 := qt265; omega)]; exact nm_v (hp2 (i + 1)) h2] at w1; exact w1))]; exact hp3.1 _)⟩⟩))⟩
                    · exact kb_dj c277 kc_17 kc_50 (by decide)
                  · have b283 : kb 1 cb 1 := kr_nel c275 b1 kc_0 (by decide)
                    refine lv_lconst (v := 0) hx hb dX12_partOf_111 (by decide) ?_
                    exact kL_ret (v := 0) hx hb hr hlocks hK hS dX12_partOf_112 f_271 hP hD ⟨(kbl_w kcl_0 (by decide) (by decide)), hI, hE, (by rw [(show f_271 22 = t268 from by rw [← ef_271]; rfl), hg270]; omega), (by show mRs lv (f 24) (v_ Ws) (f_271 24) (0 : Int64).toInt; rw [((show f_271 24 = f_261 24 from by rw [← ef_271]; rfl).trans ((show f_261 24 = u247 24 from by rw [← ef_261]; rfl).trans ((eE248 24 (by decide)).trans ecb.symm))), ← ecb]; exact (Or.inr ⟨(fun h => c275 h.2), rfl, (by decide +kernel)⟩))⟩
              · exact kb_nsame c264 kc_17 kc_17
        · exact kb_nsame c253 kc_0 kc_0
      · have b284 : kb 0 c22 2799 := kb_go (eS_fE hE hp0 (by decide) (by decide)) (mC_lt (eS_fE hE hp0 (by decide) (by decide)) (ne_0 hck (by decide +kernel))) hg0
        refine lv_aload_n hx hb dX12_partOf_0 rfl (lv_at hl 0 rfl) ?_
        refine lv_bipush (v := 91) hx hb dX12_partOf_1 (by decide) ?_
        refine kN.callS (As := [.int 91]) (rest := [.ref o]) ⟨hx, hb, hml, hown, hg⟩ (m_sign l 91 (kb_w kc_91 (by decide) (by decide))) (va_cwS 1 hg (kgS wt6_220 wt6_221 wt1_14 wt6_222) rfl rfl rfl (by decide +kernel) ⟨by dsimp only [rmD]; omega, by dsimp only [rmD]; omega⟩) hP hS rfl hl.1 rfl (Nat.le_of_ble_eq_true rfl) dX12_partOf_3 ⟨Nat.le_refl _, Nat.le_refl _⟩ (fun v286 H locs hw285 hP hS => ?_)
        refine k_top (z := 191) (Int32.toInt_inj.mp (hw285.2.trans (by decide +kernel))) ?_
        refine kI.callV (As := [.int 191]) (rest := []) ⟨hx, hb, hml, hown, hg⟩ (m_passes0 l o r f a g hI 191 (kb_w kc_191 (by decide) (by decide)) t (i) true (eS_fE hE hp0 (by decide) (by decide)) (by rw [ec22.symm]; exact hg0)) (cwV 1 hg (kgV wt7_63 wt7_65 wp5_12 wt1_14 wt7_66) rfl rfl rfl (by decide +kernel) ⟨by dsimp only [rmD]; omega, by dsimp only [rmD]; omega⟩) hK hP hD hS hA mIs [] rfl (wr := []) rfl rfl rfl (fun i h => by cases h) 0 12 rfl rfl rfl hl.1 rfl (Nat.le_of_ble_eq_true rfl) dX12_partOf_6 ⟨Nat.le_refl _, Nat.le_refl _⟩ (fun v289 u290 H locs hw288 hP hD hS => ?_)
        have hP : va_P D vwCl (mW K o r u290 a g) H := hP
        have hD : va_D A (mW K o r u290 a g) := hD
        have hI : mI u290 a := hw288.2.1
        have eE291 : fE [22] f u290 := hw288.2.2.1
        have hE : fE [22, 24] f u290 := fE_tr hE (fE_w (by decide) eE291)
        have hz292 := pass_n hw288.2.2.2 (fun q => absurd (hck.symm.trans q) (by decide +kernel))
        refine k_top (z := 0) hz292.1 ?_
        obtain ⟨gv293, egv293⟩ : ∃ z : Int32, z = u290 22 := ⟨_, rfl⟩
        have hg294 : gv293.toInt = 400 * (t : Int) + ((i : Nat) : Int) := by rw [egv293]; exact hz292.2
        have b295 : kb 0 gv293 2799 := kb_go (eS_fE hE hp0 (by decide) (by decide)) (mC_lt (eS_fE hE hp0 (by decide) (by decide)) (ne_0 hck (by decide +kernel))) hg294
        refine lv_if_eq (tgt := 30) hx hb dX12_partOf_9 (by decide) (fun c296 => ?_) (fun c296 => ?_)
        · refine lv_aload_n hx hb dX12_partOf_30 rfl (lv_at hl 0 rfl) ?_
          refine lv_aload_n hx hb dX12_partOf_31 rfl (lv_at hl 0 rfl) ?_
          refine va_get (D := D) (ci := 12) (v := .int (u290 22)) (C := RX12) (T := TX12) (N := 48) hx hb hg inC12 hown hK hP 0 rfl rfl 22 (by decide) (hg _ wt5_182) (fun _ h9 => h9) rfl dX12_partOf_32 ?_
          refine k_top (z := gv293) egv293.symm ?_
          refine kI.callV (As := [.int gv293]) (rest := []) ⟨hx, hb, hml, hown, hg⟩ (m_codeAt l o r u290 a g hI gv293  t (i) true (eS_fE hE hp0 (by decide) (by decide)) hg294) (cwV 1 hg (kgV wt7_47 wt7_49 wp5_8 wt1_14 wt7_50) rfl rfl rfl (by decide +kernel) ⟨by dsimp only [rmD]; omega, by dsimp only [rmD]; omega⟩) hK hP hD hS hA mIs [] rfl (wr := []) rfl rfl rfl (fun i h => by cases h) 0 12 rfl rfl rfl hl.1 rfl (Nat.le_of_ble_eq_true rfl) dX12_partOf_35 ⟨Nat.le_refl _, Nat.le_refl _⟩ (fun v298 u299 H locs hw297 hP hD hS => ?_)
          have hP : va_P D vwCl (mW K o r u290 a g) H := hP
          have hD : va_D A (mW K o r u290 a g) := hD
          refine k_top (z := 22) (hw297.2.trans hck) ?_
          refine lv_istore_n (lv' := [(2, .int 22), (0, .ref o), (1, .int lv)]) hx hb dX12_partOf_38 rfl hl (by decide) rfl (fun ls hl => ?_)
          refine lv_iconst (v := 0) hx hb dX12_partOf_39 (by decide) ?_
          refine lv_istore_n (lv' := [(3, .int 0), (2, .int 22), (0, .ref o), (1, .int lv)]) hx hb dX12_partOf_40 rfl hl (by decide) rfl (fun ls hl => ?_)
          refine lv_aload_n hx hb dX12_partOf_41 rfl (lv_at hl 2 rfl) ?_
          refine lv_dup hx hb dX12_partOf_42 rfl ?_
          refine va_get (D := D) (ci := 12) (v := .int (u290 22)) (C := RX12) (T := TX12) (N := 48) hx hb hg inC12 hown hK hP 0 rfl rfl 22 (by decide) (hg _ wt5_182) (fun _ h9 => h9) rfl dX12_partOf_43 ?_
          refine k_top (z := gv293) egv293.symm ?_
          refine lv_iconst (v := 1) hx hb dX12_partOf_46 (by decide) ?_
          refine lv_iadd hx hb dX12_partOf_47 ?_
          refine lv_topi (fun t300 et300 => ?_)
          have b301 : kb 1 t300 2800 := kb_eq et300 (kb_add b295 kc_1 (by decide) (by decide))
          have qt300 : t300.toInt = gv293.toInt + 1 := by rw [et300]; exact kt_addc b295 kc_1 (by decide) (by decide)
          have hg302 : t300.toInt = 400 * (t : Int) + ((i + 1 : Nat) : Int) := by rw [qt300, hg294]; omega
          have b303 : kb 0 t300 2799 := kb_go (eS_fE hE hp0 (by decide) (by decide)) (mC_lt (eS_fE hE hp0 (by decide) (by decide)) (ne_0 hc50 (by decide +kernel))) hg302
          refine va_put (D := D) (ci := 12) (v := .int t300) (ty := .int) (C := RX12) (T := TX12) (N := 48) hx hb hg inC12 tyX12 tyX12_ok nmX12 hown hK hP hD hS 0 rfl rfl 22 (by decide) (hg _ wt5_182) (fun _ h9 => h9) rfl (by decide +kernel) rfl rfl (Nat.le_of_ble_eq_true rfl) dX12_partOf_48 (fun H locs hP hD hS => ?_)
          have hP : va_P D vwCl (mW K o r (upd u290 22 t300) a g) H := hP
          have hD : va_D A (mW K o r (upd u290 22 t300) a g) := hD
          refine k_gen (P := fun z => va_P D vwCl (mW K o r z a g) H ∧ va_D A (mW K o r z a g) ∧ (mI z a) ∧ (fE [22, 24] f z)) (upd u290 22 t300) ⟨hP, hD, (mI_f hI (fI_st hI.1 22 (kb_any _) (by decide) (by decide))), (fE_f hE (by decide))⟩ (fun f_304 ef_304 hq => ?_)
          obtain ⟨hP, hD, hI, hE⟩ := hq
          refine lv_aload_n hx hb dX12_partOf_51 rfl (lv_at hl 2 rfl) ?_
          refine va_get (D := D) (ci := 12) (v := .int (f_304 25)) (C := RX12) (T := TX12) (N := 48) hx hb hg inC12 hown hK hP 0 rfl rfl 25 (by decide) (hg _ wt5_185) (fun _ h9 => h9) rfl dX12_partOf_52 ?_
          refine k_top (z := 1) ((show f_304 25 = u290 25 from by rw [← ef_304]; rfl).trans ((eE291 25 (by decide)).trans hp0.2.2.1)) ?_
          refine lv_if_eq (tgt := 100) hx hb dX12_partOf_55 (by decide) (fun c305 => ?_) (fun c305 => ?_)
          · exact kb_dj c305 kc_1 kc_0 (by decide)
          · refine lv_iload_n hx hb dX12_partOf_58 rfl (lv_at hl 1 rfl) ?_
            refine lv_bipush (v := 16) hx hb dX12_partOf_59 (by decide) ?_
            refine lv_icmp_eq (tgt := 76) hx hb dX12_partOf_61 (by decide) (fun c306 => ?_) (fun c306 => ?_)
            · exact kb_dj c306 kc_22 kc_16 (by decide)
            · refine lv_iload_n hx hb dX12_partOf_64 rfl (lv_at hl 1 rfl) ?_
              refine lv_bipush (v := 17) hx hb dX12_partOf_65 (by decide) ?_
              refine lv_icmp_eq (tgt := 76) hx hb dX12_partOf_67 (by decide) (fun c307 => ?_) (fun c307 => ?_)
              · exact kb_dj c307 kc_22 kc_17 (by decide)
              · refine lv_iload_n hx hb dX12_partOf_70 rfl (lv_at hl 1 rfl) ?_
                refine lv_bipush (v := 22) hx hb dX12_partOf_71 (by decide) ?_
                refine lv_icmp_ne (tgt := 100) hx hb dX12_partOf_73 (by decide) (fun c308 => ?_) (fun c308 => ?_)
                · exact kb_nsame c308 kc_22 kc_22
                · refine lv_aload_n hx hb dX12_partOf_76 rfl (lv_at hl 2 rfl) ?_
                  refine va_get (D := D) (ci := 12) (v := .ref (r 2)) (C := RX12) (T := TX12) (N := 48) hx hb hg inC12 hown hK hP 0 rfl rfl 2 (by decide) (hg _ wt5_162) (fun _ h9 => h9) rfl dX12_partOf_77 ?_
                  refine lv_sipush (v := 2914) hx hb dX12_partOf_80 (by decide) ?_
                  refine lv_aload_n hx hb dX12_partOf_83 rfl (lv_at hl 2 rfl) ?_
                  refine va_get (D := D) (ci := 12) (v := .int (f_304 22)) (C := RX12) (T := TX12) (N := 48) hx hb hg inC12 hown hK hP 0 rfl rfl 22 (by decide) (hg _ wt5_182) (fun _ h9 => h9) rfl dX12_partOf_84 ?_
                  refine k_top (z := t300) (show f_304 22 = t300 from by rw [← ef_304]; rfl) ?_
                  refine lv_iadd hx hb dX12_partOf_87 ?_
                  refine lv_topi (fun t309 et309 => ?_)
                  have b310 : kb 2914 t309 5713 := kb_eq et309 (kb_add kc_2914 b303 (by decide) (by decide))
                  have qt309 : t309.toInt = 2914 + t300.toInt := by rw [et309]; exact kt_cadd kc_2914 b303 (by decide) (by decide)
                  refine va_iald hx hb hK hP 2 0 rfl rfl (kb_in b310 (by decide) (by decide)) dX12_partOf_88 ?_
                  refine lv_topi (fun t311 et311 => ?_)
                  refine lv_istore_n (lv' := [(3, .int t311), (2, .int 22), (0, .ref o), (1, .int lv)]) hx hb dX12_partOf_89 rfl hl (by decide) rfl (fun ls hl => ?_)
                  refine lv_aload_n hx hb dX12_partOf_90 rfl (lv_at hl 2 rfl) ?_
                  refine lv_dup hx hb dX12_partOf_91 rfl ?_
                  refine va_get (D := D) (ci := 12) (v := .int (f_304 22)) (C := RX12) (T := TX12) (N := 48) hx hb hg inC12 hown hK hP 0 rfl rfl 22 (by decide) (hg _ wt5_182) (fun _ h9 => h9) rfl dX12_partOf_92 ?_
                  refine k_top (z := t300) (show f_304 22 = t300 from by rw [← ef_304]; rfl) ?_
                  refine lv_iconst (v := 1) hx hb dX12_partOf_95 (by decide) ?_
                  refine lv_iadd hx hb dX12_partOf_96 ?_
                  refine lv_topi (fun t312 et312 => ?_)
                  have b313 : kb 1 t312 2800 := kb_eq et312 (kb_add b303 kc_1 (by decide) (by decide))
                  have qt312 : t312.toInt = t300.toInt + 1 := by rw [et312]; exact kt_addc b303 kc_1 (by decide) (by decide)
                  have hg314 : t312.toInt = 400 * (t : Int) + ((i + 1 + 1 : Nat) : Int) := by rw [qt312, hg302]; omega
                  refine va_put (D := D) (ci := 12) (v := .int t312) (ty := .int) (C := RX12) (T := TX12) (N := 48) hx hb hg inC12 tyX12 tyX12_ok nmX12 hown hK hP hD hS 0 rfl rfl 22 (by decide) (hg _ wt5_182) (fun _ h9 => h9) rfl (by decide +kernel) rfl rfl (Nat.le_of_ble_eq_true rfl) dX12_partOf_97 (fun H locs hP hD hS => ?_)
                  have hP : va_P D vwCl (mW K o r (upd f_304 22 t312) a g) H := hP
                  have hD : va_D A (mW K o r (upd f_304 22 t312) a g) := hD
                  refine k_gen (P := fun z => va_P D vwCl (mW K o r z a g) H ∧ va_D A (mW K o r z a g) ∧ (mI z a) ∧ (fE [22, 24] f z)) (upd f_304 22 t312) ⟨hP, hD, (mI_f hI (fI_st hI.1 22 (kb_any _) (by decide) (by decide))), (fE_f hE (by decide))⟩ (fun f_315 ef_315 hq => ?_)
                  obtain ⟨hP, hD, hI, hE⟩ := hq
                  refine lv_iload_n hx hb dX12_partOf_100 rfl (lv_at hl 3 rfl) ?_
                  refine lv_if_eq (tgt := 111) hx hb dX12_partOf_101 (by decide) (fun c316 => ?_) (fun c316 => ?_)
                  · have b317 : kb 0 lv 0 := kb_eq c316 kc_0
                    refine lv_lconst (v := 0) hx hb dX12_partOf_111 (by decide) ?_
                    exact kL_ret (v := 0) hx hb hr hlocks hK hS dX12_partOf_112 f_315 hP hD ⟨(kbl_w kcl_0 (by decide) (by decide)), hI, hE, (by rw [(show f_315 22 = t312 from by rw [← ef_315]; rfl), hg314]; omega), (by show mRs lv (f 24) (v_ Ws) (f_315 24) (0 : Int64).toInt; rw [((show f_315 24 = f_304 24 from by rw [← ef_315]; rfl).trans ((show f_304 24 = u290 24 from by rw [← ef_304]; rfl).trans ((eE291 24 (by decide)).trans ecb.symm))), ← ecb]; exact (Or.inr ⟨(fun h => absurd (c316.symm.trans h.1) (by decide +kernel)), rfl, (by decide +kernel)⟩))⟩
                  · have b318 : kb 1 lv 1 := kr_nel c316 blv kc_0 (by decide)
                    refine lv_aload_n hx hb dX12_partOf_104 rfl (lv_at hl 2 rfl) ?_
                    refine va_get (D := D) (ci := 12) (v := .int (f_315 24)) (C := RX12) (T := TX12) (N := 48) hx hb hg inC12 hown hK hP 0 rfl rfl 24 (by decide) (hg _ wt5_184) (fun _ h9 => h9) rfl dX12_partOf_105 ?_
                    refine k_top (z := cb) ((show f_315 24 = f_304 24 from by rw [← ef_315]; rfl).trans ((show f_304 24 = u290 24 from by rw [← ef_304]; rfl).trans ((eE291 24 (by decide)).trans ecb.symm))) ?_
                    refine lv_if_eq (tgt := 113) hx hb dX12_partOf_108 (by decide) (fun c319 => ?_) (fun c319 => ?_)
                    · have b320 : kb 0 cb 0 := kb_eq c319 kc_0
                      refine lv_iload_n hx hb dX12_partOf_113 rfl (lv_at hl 1 rfl) ?_
                      refine lv_bipush (v := 50) hx hb dX12_partOf_114 (by decide) ?_
                      refine lv_icmp_ne (tgt := 136) hx hb dX12_partOf_116 (by decide) (fun c321 => ?_) (fun c321 => ?_)
                      · refine lv_aload_n hx hb dX12_partOf_136 rfl (lv_at hl 2 rfl) ?_
                        refine va_get (D := D) (ci := 12) (v := .int (f_315 25)) (C := RX12) (T := TX12) (N := 48) hx hb hg inC12 hown hK hP 0 rfl rfl 25 (by decide) (hg _ wt5_185) (fun _ h9 => h9) rfl dX12_partOf_137 ?_
                        refine k_top (z := 1) ((show f_315 25 = f_304 25 from by rw [← ef_315]; rfl).trans ((show f_304 25 = u290 25 from by rw [← ef_304]; rfl).trans ((eE291 25 (by decide)).trans hp0.2.2.1))) ?_
                        refine lv_if_eq (tgt := 153) hx hb dX12_partOf_140 (by decide) (fun c322 => ?_) (fun c322 => ?_)
                        · exact kb_dj c322 kc_1 kc_0 (by decide)
                        · refine lv_aload_n hx hb dX12_partOf_143 rfl (lv_at hl 2 rfl) ?_
                          refine lv_iload_n hx hb dX12_partOf_144 rfl (lv_at hl 1 rfl) ?_
                          refine lv_iload_n hx hb dX12_partOf_145 rfl (lv_at hl 0 rfl) ?_
                          refine kI.callV (As := [.int 22, .int t311]) (rest := []) ⟨hx, hb, hml, hown, hg⟩ (n_orderValue l o r f_315 a g hI 22 t311 (kb_w kc_22 (by decide) (by decide)) Ws ((wQ_fE hE hp3 (by decide) (by decide)).2.2 rfl) ⟨fun q => absurd q (by decide +kernel), fun _ => (nm_b (hp2 (i + 1)) h2 (show t311 = mV (a 2) t (i + 1) from by rw [et311, mV_at (k := a 2) (t := t) (i := i + 1) (by have w1 := qt309; omega)]) (by rw [hct]; exact if_neg (by decide +kernel)))⟩) (cwV 2 hg (kgV wt7_67 wt7_69 wp5_13 wt1_14 wt7_70) rfl rfl rfl (by decide +kernel) ⟨by dsimp only [rmD]; omega, by dsimp only [rmD]; omega⟩) hK hP hD hS hA mIs [] rfl (wr := []) rfl rfl rfl (fun i h => by cases h) 0 12 rfl rfl rfl hl.1 rfl (Nat.le_of_ble_eq_true rfl) dX12_partOf_146 ⟨Nat.le_refl _, Nat.le_refl _⟩ (fun v324 u325 H locs hw323 hP hD hS => ?_)
                          have hP : va_P D vwCl (mW K o r f_315 a g) H := hP
                          have hD : va_D A (mW K o r f_315 a g) := hD
                          refine lv_i2l hx hb dX12_partOf_149 rfl ?_
                          refine lv_topl (fun t326 et326 => ?_)
                          refine lv_goto (tgt := 163) hx hb dX12_partOf_150 (by decide) ?_
                          exact kL_ret (v := t326) hx hb hr hlocks hK hS dX12_partOf_163 f_315 hP hD ⟨(kbl_any t326), hI, hE, (by rw [(show f_315 22 = t312 from by rw [← ef_315]; rfl), hg314]; omega), (by show mRs lv (f 24) (v_ Ws) (f_315 24) (t326 : Int64).toInt; rw [((show f_315 24 = f_304 24 from by rw [← ef_315]; rfl).trans ((show f_304 24 = u290 24 from by rw [← ef_304]; rfl).trans ((eE291 24 (by decide)).trans ecb.symm))), ← ecb]; exact (Or.inl ⟨(kb_11 b318), c319, Or.inl ⟨(by rw [hj2, lf_word hnk rfl, (show (t326 : Int64).toInt = Ws (wIx true (T i) (T (i + 1))) from by rw [et326, kt_i2l]; exact (by have w1 := hw323.2; rw [show mpL.getD (22 : Int32).toInt.toNat 0 = T i from by rw [hct]; decide +kernel, show t311 = T (i + 1) from by rw [et311, mV_at (k := a 2) (t := t) (i := i + 1) (by have w1 := qt309; omega)]; exact nm_v (hp2 (i + 1)) h2] at w1; exact w1))]), c319, (by rw [(show (t326 : Int64).toInt = Ws (wIx true (T i) (T (i + 1))) from by rw [et326, kt_i2l]; exact (by have w1 := hw323.2; rw [show mpL.getD (22 : Int32).toInt.toNat 0 = T i from by rw [hct]; decide +kernel, show t311 = T (i + 1) from by rw [et311, mV_at (k := a 2) (t := t) (i := i + 1) (by have w1 := qt309; omega)]; exact nm_v (hp2 (i + 1)) h2] at w1; exact w1))]; exact hp3.1 _)⟩⟩))⟩
                      · exact kb_dj c321 kc_22 kc_50 (by decide)
                    · have b327 : kb 1 cb 1 := kr_nel c319 b1 kc_0 (by decide)
                      refine lv_lconst (v := 0) hx hb dX12_partOf_111 (by decide) ?_
                      exact kL_ret (v := 0) hx hb hr hlocks hK hS dX12_partOf_112 f_315 hP hD ⟨(kbl_w kcl_0 (by decide) (by decide)), hI, hE, (by rw [(show f_315 22 = t312 from by rw [← ef_315]; rfl), hg314]; omega), (by show mRs lv (f 24) (v_ Ws) (f_315 24) (0 : Int64).toInt; rw [((show f_315 24 = f_304 24 from by rw [← ef_315]; rfl).trans ((show f_304 24 = u290 24 from by rw [← ef_304]; rfl).trans ((eE291 24 (by decide)).trans ecb.symm))), ← ecb]; exact (Or.inr ⟨(fun h => c319 h.2), rfl, (by decide +kernel)⟩))⟩
        · exact kb_nsame c296 kc_0 kc_0
set_option maxHeartbeats 4000000 in
theorem n_allSum : ∀ d, nSum d := by
  intro d
  induction d with
  | zero => exact n_sumOf 0 (n_termOf 0 (n_partOf 0 (fun e h => absurd h (by omega))))
  | succ d ih => exact n_sumOf _ (n_termOf _ (n_partOf _ (fun e h => (Nat.succ.inj h) ▸ ih)))
set_option maxHeartbeats 4000000 in
theorem n_allTest : ∀ d, nTest d := by
  intro d
  induction d with
  | zero => exact n_testOf 0 (n_bothOf 0 (n_plainOf 0 (n_positiveOf 0 (fun e h => absurd h (by omega)) (n_allSum 0))))
  | succ d ih => exact n_testOf _ (n_bothOf _ (n_plainOf _ (n_positiveOf _ (fun e h => (Nat.succ.inj h) ▸ ih) (n_allSum _))))
