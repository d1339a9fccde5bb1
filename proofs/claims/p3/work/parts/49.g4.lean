def mFeedV (t : Int32) : Int32 := if 380 < t.toInt then -1 else t + 20
def mFeedT (t : Int32) : Int32 := if 380 < t.toInt then t else t + 20
/-! a row that is being copied -/
def mCp (src dst : Nat → Int32) (so d n j : Nat) : Int32 := if d ≤ j ∧ j < d + n then src (so + (j - d)) else dst j
theorem mCp_0 {src dst : Nat → Int32} {so d : Nat} : mCp src dst so d 0 = dst := by
  funext j
  unfold mCp
  rw [if_neg (by omega)]
theorem mCp_s {src dst : Nat → Int32} {so d n : Nat} : upd (mCp src dst so d n) (d + n) (src (so + n)) = mCp src dst so d (n + 1) := by
  funext j
  by_cases e : j = d + n
  · rw [e, pk_us]
    unfold mCp
    rw [if_pos (by omega)]
    congr 1; omega
  · rw [pk_un e]
    unfold mCp
    by_cases q : d ≤ j ∧ j < d + n
    · rw [if_pos q, if_pos (by omega)]
    · rw [if_neg q, if_neg (by omega)]
theorem mCp_in {B a' : Nat → Nat → Int32} {src dst : Nat → Int32} {s so d n : Nat} {x v : Int32} (hB : B s = mCp src dst so d n) (e : va_up B s (upd (B s) x.toNatClampNeg v) = a') (hx : x.toInt = ((d + n : Nat) : Int)) (hv : v = src (so + n)) : a' s = mCp src dst so d (n + 1) := by
  have x1 : a' s = upd (B s) x.toNatClampNeg v := by rw [← e]; unfold va_up; rw [if_pos rfl]
  have n1 : x.toNatClampNeg = d + n := by unfold Int32.toNatClampNeg; omega
  rw [x1, hB, n1, hv]
  exact mCp_s
/-! the tape's bytes -/
theorem kt_rem {l h : Int} {x y : Int32} {d : Nat} (b : kb l x h) (p : 0 ≤ l) (ey : y = nI d) (d0 : 0 < d) (d1 : d < 2 ^ 31) : (x - x / y * y).toInt = x.toInt % d := by
  obtain ⟨a, ea, ha, la⟩ := kn_nat b p
  have hm : a % d < d := Nat.mod_lt a d0
  rw [ea, ey, pk_rem la d0 d1, kn_to (Nat.lt_trans hm d1), kn_to la]
  rfl
def tB (x : Int32) (k : Nat) : Int32 := vp_nar .byte ((x >>> (nI (24 - 8 * k) &&& 31)).toInt8.toInt32)
def tS (x1 x2 x3 x4 x5 : Int32) (i : Nat) : Int32 := if i < 4 then tB x1 i else if i < 8 then tB x2 (i - 4) else if i < 12 then tB x3 (i - 8) else if i < 16 then tB x4 (i - 12) else tB x5 (i - 16)
theorem tB_at {x s v : Int32} {k : Nat} (hk : k < 4) (hs : s.toInt = 24 - 8 * (k : Int)) (hv : v = (x >>> (s &&& 31)).toInt8.toInt32) : vp_nar .byte v = tB x k := by
  have e : s = nI (24 - 8 * k) := Int32.toInt_inj.mp (by rw [nI_toInt (by omega), hs]; omega)
  unfold tB
  rw [hv, e]
theorem tS_at {x1 x2 x3 x4 x5 : Int32} {F : Nat → Int32} (h0 : F 0 = x1) (h1 : F 1 = x2) (h2 : F 2 = x3) (h3 : F 3 = x4) (h4 : F 4 = x5) {k : Nat} (hk : k < 20) : tS x1 x2 x3 x4 x5 k = tB (F (k / 4)) (k % 4) := by
  unfold tS
  by_cases q1 : k < 4
  · rw [if_pos q1, show k / 4 = 0 by omega, show k % 4 = k by omega, h0]
  · rw [if_neg q1]
    by_cases q2 : k < 8
    · rw [if_pos q2, show k / 4 = 1 by omega, show k % 4 = k - 4 by omega, h1]
    · rw [if_neg q2]
      by_cases q3 : k < 12
      · rw [if_pos q3, show k / 4 = 2 by omega, show k % 4 = k - 8 by omega, h2]
      · rw [if_neg q3]
        by_cases q4 : k < 16
        · rw [if_pos q4, show k / 4 = 3 by omega, show k % 4 = k - 12 by omega, h3]
        · rw [if_neg q4, show k / 4 = 4 by omega, show k % 4 = k - 16 by omega, h4]
theorem mCp_i {src dst : Nat → Int32} {so d n j k : Nat} (h : d ≤ j ∧ j < d + n) (hk : so + (j - d) = k) : mCp src dst so d n j = src k := by
  unfold mCp
  rw [if_pos h, hk]
theorem mCp_o {src dst : Nat → Int32} {so d n j : Nat} (h : ¬ (d ≤ j ∧ j < d + n)) : mCp src dst so d n j = dst j := by
  unfold mCp
  rw [if_neg h]
theorem mCp5 {x1 x2 x3 x4 x5 : Int32} {A : Nat → Int32} {T : Nat} : mCp (tB x5) (mCp (tB x4) (mCp (tB x3) (mCp (tB x2) (mCp (tB x1) A 0 T 4) 0 (T + 4) 4) 0 (T + 8) 4) 0 (T + 12) 4) 0 (T + 16) 4 = mCp (tS x1 x2 x3 x4 x5) A 0 T 20 := by
  funext j
  by_cases h : T ≤ j ∧ j < T + 20
  · rw [mCp_i (k := j - T) h (by omega)]
    unfold tS
    by_cases q1 : j - T < 4
    · rw [if_pos q1, mCp_o (by omega), mCp_o (by omega), mCp_o (by omega), mCp_o (by omega), mCp_i (k := j - T) (by omega) (by omega)]
    · rw [if_neg q1]
      by_cases q2 : j - T < 8
      · rw [if_pos q2, mCp_o (by omega), mCp_o (by omega), mCp_o (by omega), mCp_i (k := j - T - 4) (by omega) (by omega)]
      · rw [if_neg q2]
        by_cases q3 : j - T < 12
        · rw [if_pos q3, mCp_o (by omega), mCp_o (by omega), mCp_i (k := j - T - 8) (by omega) (by omega)]
        · rw [if_neg q3]
          by_cases q4 : j - T < 16
          · rw [if_pos q4, mCp_o (by omega), mCp_i (k := j - T - 12) (by omega) (by omega)]
          · rw [if_neg q4, mCp_i (k := j - T - 16) (by omega) (by omega)]
  · rw [mCp_o h, mCp_o (by omega), mCp_o (by omega), mCp_o (by omega), mCp_o (by omega), mCp_o (by omega)]
def mFeedA (t x1 x2 x3 x4 x5 : Int32) (A : Nat → Int32) : Nat → Int32 := if 380 < t.toInt then A else mCp (tS x1 x2 x3 x4 x5) A 0 t.toNatClampNeg 20
/-! rows of parts off the tape -/
def rSt (ok : Nat → Nat → Prop) (n0 : Nat) : Nat → Nat → Prop
  | 0, n => n = n0
  | k + 1, n => ∃ m, rSt ok n0 k m ∧ ((ok k m ∧ n = m + 1) ∨ (¬ ok k m ∧ n = m))
theorem rSt_eq {p q : Nat → Nat → Prop} {n0 : Nat} (h : ∀ k m, p k m ↔ q k m) (k : Nat) : ∀ a b : Nat, rSt p n0 k a → rSt q n0 k b → a = b := by
  induction k with
  | zero => intro a b h1 h2; exact Eq.trans h1 (Eq.symm h2)
  | succ k ih =>
    intro a b h1 h2
    obtain ⟨m1, r1, c1⟩ := h1
    obtain ⟨m2, r2, c2⟩ := h2
    have e := ih m1 m2 r1 r2
    subst e
    rcases c1 with ⟨o1, e1⟩ | ⟨o1, e1⟩ <;> rcases c2 with ⟨o2, e2⟩ | ⟨o2, e2⟩
    · omega
    · exact absurd ((h k m1).mp o1) o2
    · exact absurd ((h k m1).mpr o2) o1
    · omega
def rOKm (A : Nat → Int32) (k m : Nat) : Prop := m < 10 ∧ okPm (A (4 * k)) (A (4 * k + 1) &&& 255) (A (4 * k + 2)) (A (4 * k + 3)) (nI m)
/-- what row answers, how many parts there are then, and the chaff -/
def rowP (ok : Nat → Nat → Prop) (t v n n' c c' : Int32) : Prop := (t = 0 ∧ v = -6 ∧ n' = n ∧ c' = c) ∨ (¬ t = 0 ∧ ∃ m : Nat, rSt ok n.toInt.toNat (t.toInt.toNat / 4) m ∧ v.toInt = (m : Int) - n.toInt ∧ n'.toInt = (m : Int) ∧ c'.toInt + (m : Int) - n.toInt = (((t.toInt.toNat + 3) / 4 : Nat) : Int))
theorem row_eq {p q : Nat → Nat → Prop} {t v1 v2 n n1 n2 c c1 c2 : Int32} (h : ∀ k m, p k m ↔ q k m) (h1 : rowP p t v1 n n1 c c1) (h2 : rowP q t v2 n n2 c c2) : v1 = v2 ∧ n1 = n2 ∧ c1 = c2 := by
  rcases h1 with ⟨a1, b1, d1, e1⟩ | ⟨a1, m1, r1, b1, d1, e1⟩ <;> rcases h2 with ⟨a2, b2, d2, e2⟩ | ⟨a2, m2, r2, b2, d2, e2⟩
  · exact ⟨b1.trans b2.symm, d1.trans d2.symm, e1.trans e2.symm⟩
  · exact absurd a1 a2
  · exact absurd a2 a1
  · have em := rSt_eq h _ m1 m2 r1 r2
    subst em
    exact ⟨Int32.toInt_inj.mp (b1.trans b2.symm), Int32.toInt_inj.mp (d1.trans d2.symm), Int32.toInt_inj.mp (by omega)⟩
def rOKx (A : Nat → Int32) (k m : Nat) : Prop := m < 10 ∧ okPx (A (4 * k) &&& 255) (A (4 * k + 1) &&& 255) (A (4 * k + 2) &&& 255) (A (4 * k + 3) &&& 255) (nI m)
theorem wrt_1 {ok : Prop} {v n n' : Int32} (h : prtP ok v n n') (hv : 0 ≤ v.toInt) : ok ∧ n.toInt ≤ 9 ∧ n'.toInt = n.toInt + 1 := by
  have e1 : (-1 : Int32).toInt = -1 := by decide +kernel
  have e5 : (-5 : Int32).toInt = -5 := by decide +kernel
  rcases h with ⟨a1, -, -⟩ | ⟨a1, -, -, -⟩ | ⟨a1, o1, m1, c1⟩
  · rw [a1] at hv; omega
  · rw [a1] at hv; omega
  · exact ⟨o1, m1.2, c1⟩
theorem wrt_0 {ok : Prop} {v n n' : Int32} (h : prtP ok v n n') (hv : v.toInt < 0) (hn : 0 ≤ n.toInt) : ¬ (n.toInt ≤ 9 ∧ ok) ∧ n' = n := by
  rcases h with ⟨a1, n1, c1⟩ | ⟨a1, n1, m1, c1⟩ | ⟨a1, o1, m1, c1⟩
  · exact ⟨fun q => n1 q.2, c1⟩
  · exact ⟨fun q => m1 ⟨hn, q.1⟩, c1⟩
  · rw [a1] at hv; omega
theorem wrx_1 {v : Int32} {P Q R S : Prop} (h : (v = 1 ∧ P ∧ Q) ∨ (v = 0 ∧ R ∧ S)) (c : ¬ v = 0) : P ∧ Q := by
  rcases h with ⟨-, p, q⟩ | ⟨e, -, -⟩
  · exact ⟨p, q⟩
  · exact absurd e c
theorem wrx_0 {v : Int32} {P Q R S : Prop} (h : (v = 1 ∧ P ∧ Q) ∨ (v = 0 ∧ R ∧ S)) (c : v = 0) : R ∧ S := by
  rcases h with ⟨e, -, -⟩ | ⟨-, p, q⟩
  · rw [c] at e; exact absurd e (by decide +kernel)
  · exact ⟨p, q⟩
theorem dX12_row_0 : decode cX12_row 0 = .ok (.aload_n 0, 1) := by decide +kernel
theorem dX12_row_1 : decode cX12_row 1 = .ok (.getfield 138, 3) := by decide +kernel
theorem dX12_row_4 : decode cX12_row 4 = .ok (.istore_n 1, 1) := by decide +kernel
theorem dX12_row_5 : decode cX12_row 5 = .ok (.aload_n 0, 1) := by decide +kernel
theorem dX12_row_6 : decode cX12_row 6 = .ok (.iconst 0, 1) := by decide +kernel
theorem dX12_row_7 : decode cX12_row 7 = .ok (.putfield 138, 3) := by decide +kernel
theorem dX12_row_10 : decode cX12_row 10 = .ok (.iload_n 1, 1) := by decide +kernel
theorem dX12_row_11 : decode cX12_row 11 = .ok (.ifCond .ne 10, 3) := by decide +kernel
theorem dX12_row_14 : decode cX12_row 14 = .ok (.aload_n 0, 1) := by decide +kernel
theorem dX12_row_15 : decode cX12_row 15 = .ok (.bipush (-6), 2) := by decide +kernel
theorem dX12_row_17 : decode cX12_row 17 = .ok (.invokevirtual 100, 3) := by decide +kernel
theorem dX12_row_20 : decode cX12_row 20 = .ok (.ireturn, 1) := by decide +kernel
theorem dX12_row_21 : decode cX12_row 21 = .ok (.iconst 0, 1) := by decide +kernel
theorem dX12_row_22 : decode cX12_row 22 = .ok (.istore_n 2, 1) := by decide +kernel
theorem dX12_row_23 : decode cX12_row 23 = .ok (.aload_n 0, 1) := by decide +kernel
theorem dX12_row_24 : decode cX12_row 24 = .ok (.iload_n 1, 1) := by decide +kernel
theorem dX12_row_25 : decode cX12_row 25 = .ok (.iconst 4, 1) := by decide +kernel
theorem dX12_row_26 : decode cX12_row 26 = .ok (.irem, 1) := by decide +kernel
theorem dX12_row_27 : decode cX12_row 27 = .ok (.ifCond .ne 7, 3) := by decide +kernel
theorem dX12_row_30 : decode cX12_row 30 = .ok (.iconst 0, 1) := by decide +kernel
theorem dX12_row_31 : decode cX12_row 31 = .ok (.goto 4, 3) := by decide +kernel
theorem dX12_row_34 : decode cX12_row 34 = .ok (.iconst 1, 1) := by decide +kernel
theorem dX12_row_35 : decode cX12_row 35 = .ok (.putfield 141, 3) := by decide +kernel
theorem dX12_row_38 : decode cX12_row 38 = .ok (.iconst 0, 1) := by decide +kernel
theorem dX12_row_39 : decode cX12_row 39 = .ok (.istore_n 3, 1) := by decide +kernel
theorem dX12_row_40 : decode cX12_row 40 = .ok (.iload_n 3, 1) := by decide +kernel
theorem dX12_row_41 : decode cX12_row 41 = .ok (.iconst 4, 1) := by decide +kernel
theorem dX12_row_42 : decode cX12_row 42 = .ok (.iadd, 1) := by decide +kernel
theorem dX12_row_43 : decode cX12_row 43 = .ok (.iload_n 1, 1) := by decide +kernel
theorem dX12_row_44 : decode cX12_row 44 = .ok (.if_icmp .gt 138, 3) := by decide +kernel
theorem dX12_row_47 : decode cX12_row 47 = .ok (.aload_n 0, 1) := by decide +kernel
theorem dX12_row_48 : decode cX12_row 48 = .ok (.getfield 41, 3) := by decide +kernel
theorem dX12_row_51 : decode cX12_row 51 = .ok (.iload_n 3, 1) := by decide +kernel
theorem dX12_row_52 : decode cX12_row 52 = .ok (.iconst 1, 1) := by decide +kernel
theorem dX12_row_53 : decode cX12_row 53 = .ok (.iadd, 1) := by decide +kernel
theorem dX12_row_54 : decode cX12_row 54 = .ok (.baload, 1) := by decide +kernel
theorem dX12_row_55 : decode cX12_row 55 = .ok (.sipush 255, 3) := by decide +kernel
theorem dX12_row_58 : decode cX12_row 58 = .ok (.iand, 1) := by decide +kernel
theorem dX12_row_59 : decode cX12_row 59 = .ok (.istore 4, 2) := by decide +kernel
theorem dX12_row_61 : decode cX12_row 61 = .ok (.aload_n 0, 1) := by decide +kernel
theorem dX12_row_62 : decode cX12_row 62 = .ok (.getfield 24, 3) := by decide +kernel
theorem dX12_row_65 : decode cX12_row 65 = .ok (.bipush 102, 2) := by decide +kernel
theorem dX12_row_67 : decode cX12_row 67 = .ok (.iaload, 1) := by decide +kernel
theorem dX12_row_68 : decode cX12_row 68 = .ok (.bipush 10, 2) := by decide +kernel
theorem dX12_row_70 : decode cX12_row 70 = .ok (.if_icmp .ge 38, 3) := by decide +kernel
theorem dX12_row_73 : decode cX12_row 73 = .ok (.aload_n 0, 1) := by decide +kernel
theorem dX12_row_74 : decode cX12_row 74 = .ok (.aload_n 0, 1) := by decide +kernel
theorem dX12_row_75 : decode cX12_row 75 = .ok (.getfield 41, 3) := by decide +kernel
theorem dX12_row_78 : decode cX12_row 78 = .ok (.iload_n 3, 1) := by decide +kernel
theorem dX12_row_79 : decode cX12_row 79 = .ok (.baload, 1) := by decide +kernel
theorem dX12_row_80 : decode cX12_row 80 = .ok (.iload 4, 2) := by decide +kernel
theorem dX12_row_82 : decode cX12_row 82 = .ok (.aload_n 0, 1) := by decide +kernel
theorem dX12_row_83 : decode cX12_row 83 = .ok (.getfield 41, 3) := by decide +kernel
theorem dX12_row_86 : decode cX12_row 86 = .ok (.iload_n 3, 1) := by decide +kernel
theorem dX12_row_87 : decode cX12_row 87 = .ok (.iconst 2, 1) := by decide +kernel
theorem dX12_row_88 : decode cX12_row 88 = .ok (.iadd, 1) := by decide +kernel
theorem dX12_row_89 : decode cX12_row 89 = .ok (.baload, 1) := by decide +kernel
theorem dX12_row_90 : decode cX12_row 90 = .ok (.aload_n 0, 1) := by decide +kernel
theorem dX12_row_91 : decode cX12_row 91 = .ok (.getfield 41, 3) := by decide +kernel
theorem dX12_row_94 : decode cX12_row 94 = .ok (.iload_n 3, 1) := by decide +kernel
theorem dX12_row_95 : decode cX12_row 95 = .ok (.iconst 3, 1) := by decide +kernel
theorem dX12_row_96 : decode cX12_row 96 = .ok (.iadd, 1) := by decide +kernel
theorem dX12_row_97 : decode cX12_row 97 = .ok (.baload, 1) := by decide +kernel
theorem dX12_row_98 : decode cX12_row 98 = .ok (.invokevirtual 106, 3) := by decide +kernel
theorem dX12_row_101 : decode cX12_row 101 = .ok (.ifCond .eq 7, 3) := by decide +kernel
theorem dX12_row_104 : decode cX12_row 104 = .ok (.iconst 1, 1) := by decide +kernel
theorem dX12_row_105 : decode cX12_row 105 = .ok (.goto 4, 3) := by decide +kernel
theorem dX12_row_108 : decode cX12_row 108 = .ok (.iconst 0, 1) := by decide +kernel
theorem dX12_row_109 : decode cX12_row 109 = .ok (.istore 5, 2) := by decide +kernel
theorem dX12_row_111 : decode cX12_row 111 = .ok (.iload 5, 2) := by decide +kernel
theorem dX12_row_113 : decode cX12_row 113 = .ok (.ifCond .eq 31, 3) := by decide +kernel
theorem dX12_row_116 : decode cX12_row 116 = .ok (.aload_n 0, 1) := by decide +kernel
theorem dX12_row_117 : decode cX12_row 117 = .ok (.aload_n 0, 1) := by decide +kernel
theorem dX12_row_118 : decode cX12_row 118 = .ok (.getfield 41, 3) := by decide +kernel
theorem dX12_row_121 : decode cX12_row 121 = .ok (.iload_n 3, 1) := by decide +kernel
theorem dX12_row_122 : decode cX12_row 122 = .ok (.baload, 1) := by decide +kernel
theorem dX12_row_123 : decode cX12_row 123 = .ok (.iload 4, 2) := by decide +kernel
theorem dX12_row_125 : decode cX12_row 125 = .ok (.aload_n 0, 1) := by decide +kernel
theorem dX12_row_126 : decode cX12_row 126 = .ok (.getfield 41, 3) := by decide +kernel
theorem dX12_row_129 : decode cX12_row 129 = .ok (.iload_n 3, 1) := by decide +kernel
theorem dX12_row_130 : decode cX12_row 130 = .ok (.iconst 2, 1) := by decide +kernel
theorem dX12_row_131 : decode cX12_row 131 = .ok (.iadd, 1) := by decide +kernel
theorem dX12_row_132 : decode cX12_row 132 = .ok (.baload, 1) := by decide +kernel
theorem dX12_row_133 : decode cX12_row 133 = .ok (.aload_n 0, 1) := by decide +kernel
theorem dX12_row_134 : decode cX12_row 134 = .ok (.getfield 41, 3) := by decide +kernel
theorem dX12_row_137 : decode cX12_row 137 = .ok (.iload_n 3, 1) := by decide +kernel
theorem dX12_row_138 : decode cX12_row 138 = .ok (.iconst 3, 1) := by decide +kernel
theorem dX12_row_139 : decode cX12_row 139 = .ok (.iadd, 1) := by decide +kernel
theorem dX12_row_140 : decode cX12_row 140 = .ok (.baload, 1) := by decide +kernel
theorem dX12_row_141 : decode cX12_row 141 = .ok (.invokevirtual 110, 3) := by decide +kernel
theorem dX12_row_144 : decode cX12_row 144 = .ok (.iload_n 2, 1) := by decide +kernel
theorem dX12_row_145 : decode cX12_row 145 = .ok (.iload 5, 2) := by decide +kernel
theorem dX12_row_147 : decode cX12_row 147 = .ok (.ifCond .eq 7, 3) := by decide +kernel
theorem dX12_row_150 : decode cX12_row 150 = .ok (.iconst 1, 1) := by decide +kernel
theorem dX12_row_151 : decode cX12_row 151 = .ok (.goto 4, 3) := by decide +kernel
theorem dX12_row_154 : decode cX12_row 154 = .ok (.iconst 0, 1) := by decide +kernel
theorem dX12_row_155 : decode cX12_row 155 = .ok (.iadd, 1) := by decide +kernel
theorem dX12_row_156 : decode cX12_row 156 = .ok (.istore_n 2, 1) := by decide +kernel
theorem dX12_row_157 : decode cX12_row 157 = .ok (.aload_n 0, 1) := by decide +kernel
theorem dX12_row_158 : decode cX12_row 158 = .ok (.dup, 1) := by decide +kernel
theorem dX12_row_159 : decode cX12_row 159 = .ok (.getfield 141, 3) := by decide +kernel
theorem dX12_row_162 : decode cX12_row 162 = .ok (.iload 5, 2) := by decide +kernel
theorem dX12_row_164 : decode cX12_row 164 = .ok (.ifCond .eq 7, 3) := by decide +kernel
theorem dX12_row_167 : decode cX12_row 167 = .ok (.iconst 0, 1) := by decide +kernel
theorem dX12_row_168 : decode cX12_row 168 = .ok (.goto 4, 3) := by decide +kernel
theorem dX12_row_171 : decode cX12_row 171 = .ok (.iconst 1, 1) := by decide +kernel
theorem dX12_row_172 : decode cX12_row 172 = .ok (.iadd, 1) := by decide +kernel
theorem dX12_row_173 : decode cX12_row 173 = .ok (.putfield 141, 3) := by decide +kernel
theorem dX12_row_176 : decode cX12_row 176 = .ok (.iinc 3 4, 3) := by decide +kernel
theorem dX12_row_179 : decode cX12_row 179 = .ok (.goto (-139), 3) := by decide +kernel
theorem dX12_row_182 : decode cX12_row 182 = .ok (.aload_n 0, 1) := by decide +kernel
theorem dX12_row_183 : decode cX12_row 183 = .ok (.iload_n 2, 1) := by decide +kernel
theorem dX12_row_184 : decode cX12_row 184 = .ok (.invokevirtual 103, 3) := by decide +kernel
theorem dX12_row_187 : decode cX12_row 187 = .ok (.ireturn, 1) := by decide +kernel
theorem dX12_feed_0 : decode cX12_feed 0 = .ok (.aload_n 0, 1) := by decide +kernel
theorem dX12_feed_1 : decode cX12_feed 1 = .ok (.getfield 138, 3) := by decide +kernel
theorem dX12_feed_4 : decode cX12_feed 4 = .ok (.bipush 20, 2) := by decide +kernel
theorem dX12_feed_6 : decode cX12_feed 6 = .ok (.iadd, 1) := by decide +kernel
theorem dX12_feed_7 : decode cX12_feed 7 = .ok (.sipush 400, 3) := by decide +kernel
theorem dX12_feed_10 : decode cX12_feed 10 = .ok (.if_icmp .le 5, 3) := by decide +kernel
theorem dX12_feed_13 : decode cX12_feed 13 = .ok (.iconst (-1), 1) := by decide +kernel
theorem dX12_feed_14 : decode cX12_feed 14 = .ok (.ireturn, 1) := by decide +kernel
theorem dX12_feed_15 : decode cX12_feed 15 = .ok (.aload_n 0, 1) := by decide +kernel
theorem dX12_feed_16 : decode cX12_feed 16 = .ok (.getfield 44, 3) := by decide +kernel
theorem dX12_feed_19 : decode cX12_feed 19 = .ok (.iconst 0, 1) := by decide +kernel
theorem dX12_feed_20 : decode cX12_feed 20 = .ok (.iload_n 1, 1) := by decide +kernel
theorem dX12_feed_21 : decode cX12_feed 21 = .ok (.iastore, 1) := by decide +kernel
theorem dX12_feed_22 : decode cX12_feed 22 = .ok (.aload_n 0, 1) := by decide +kernel
theorem dX12_feed_23 : decode cX12_feed 23 = .ok (.getfield 44, 3) := by decide +kernel
theorem dX12_feed_26 : decode cX12_feed 26 = .ok (.iconst 1, 1) := by decide +kernel
theorem dX12_feed_27 : decode cX12_feed 27 = .ok (.iload_n 2, 1) := by decide +kernel
theorem dX12_feed_28 : decode cX12_feed 28 = .ok (.iastore, 1) := by decide +kernel
theorem dX12_feed_29 : decode cX12_feed 29 = .ok (.aload_n 0, 1) := by decide +kernel
theorem dX12_feed_30 : decode cX12_feed 30 = .ok (.getfield 44, 3) := by decide +kernel
theorem dX12_feed_33 : decode cX12_feed 33 = .ok (.iconst 2, 1) := by decide +kernel
theorem dX12_feed_34 : decode cX12_feed 34 = .ok (.iload_n 3, 1) := by decide +kernel
theorem dX12_feed_35 : decode cX12_feed 35 = .ok (.iastore, 1) := by decide +kernel
theorem dX12_feed_36 : decode cX12_feed 36 = .ok (.aload_n 0, 1) := by decide +kernel
theorem dX12_feed_37 : decode cX12_feed 37 = .ok (.getfield 44, 3) := by decide +kernel
theorem dX12_feed_40 : decode cX12_feed 40 = .ok (.iconst 3, 1) := by decide +kernel
theorem dX12_feed_41 : decode cX12_feed 41 = .ok (.iload 4, 2) := by decide +kernel
theorem dX12_feed_43 : decode cX12_feed 43 = .ok (.iastore, 1) := by decide +kernel
theorem dX12_feed_44 : decode cX12_feed 44 = .ok (.aload_n 0, 1) := by decide +kernel
theorem dX12_feed_45 : decode cX12_feed 45 = .ok (.getfield 44, 3) := by decide +kernel
theorem dX12_feed_48 : decode cX12_feed 48 = .ok (.iconst 4, 1) := by decide +kernel
theorem dX12_feed_49 : decode cX12_feed 49 = .ok (.iload 5, 2) := by decide +kernel
theorem dX12_feed_51 : decode cX12_feed 51 = .ok (.iastore, 1) := by decide +kernel
theorem dX12_feed_52 : decode cX12_feed 52 = .ok (.iconst 0, 1) := by decide +kernel
theorem dX12_feed_53 : decode cX12_feed 53 = .ok (.istore 6, 2) := by decide +kernel
theorem dX12_feed_55 : decode cX12_feed 55 = .ok (.iload 6, 2) := by decide +kernel
theorem dX12_feed_57 : decode cX12_feed 57 = .ok (.bipush 20, 2) := by decide +kernel
theorem dX12_feed_59 : decode cX12_feed 59 = .ok (.if_icmp .ge 42, 3) := by decide +kernel
theorem dX12_feed_62 : decode cX12_feed 62 = .ok (.aload_n 0, 1) := by decide +kernel
theorem dX12_feed_63 : decode cX12_feed 63 = .ok (.getfield 41, 3) := by decide +kernel
theorem dX12_feed_66 : decode cX12_feed 66 = .ok (.aload_n 0, 1) := by decide +kernel
theorem dX12_feed_67 : decode cX12_feed 67 = .ok (.getfield 138, 3) := by decide +kernel
theorem dX12_feed_70 : decode cX12_feed 70 = .ok (.iload 6, 2) := by decide +kernel
theorem dX12_feed_72 : decode cX12_feed 72 = .ok (.iadd, 1) := by decide +kernel
theorem dX12_feed_73 : decode cX12_feed 73 = .ok (.aload_n 0, 1) := by decide +kernel
theorem dX12_feed_74 : decode cX12_feed 74 = .ok (.getfield 44, 3) := by decide +kernel
theorem dX12_feed_77 : decode cX12_feed 77 = .ok (.iload 6, 2) := by decide +kernel
theorem dX12_feed_79 : decode cX12_feed 79 = .ok (.iconst 4, 1) := by decide +kernel
theorem dX12_feed_80 : decode cX12_feed 80 = .ok (.idiv, 1) := by decide +kernel
theorem dX12_feed_81 : decode cX12_feed 81 = .ok (.iaload, 1) := by decide +kernel
theorem dX12_feed_82 : decode cX12_feed 82 = .ok (.bipush 24, 2) := by decide +kernel
theorem dX12_feed_84 : decode cX12_feed 84 = .ok (.bipush 8, 2) := by decide +kernel
theorem dX12_feed_86 : decode cX12_feed 86 = .ok (.iload 6, 2) := by decide +kernel
theorem dX12_feed_88 : decode cX12_feed 88 = .ok (.iconst 4, 1) := by decide +kernel
theorem dX12_feed_89 : decode cX12_feed 89 = .ok (.irem, 1) := by decide +kernel
theorem dX12_feed_90 : decode cX12_feed 90 = .ok (.imul, 1) := by decide +kernel
theorem dX12_feed_91 : decode cX12_feed 91 = .ok (.isub, 1) := by decide +kernel
theorem dX12_feed_92 : decode cX12_feed 92 = .ok (.ishr, 1) := by decide +kernel
theorem dX12_feed_93 : decode cX12_feed 93 = .ok (.i2b, 1) := by decide +kernel
theorem dX12_feed_94 : decode cX12_feed 94 = .ok (.bastore, 1) := by decide +kernel
theorem dX12_feed_95 : decode cX12_feed 95 = .ok (.iinc 6 1, 3) := by decide +kernel
theorem dX12_feed_98 : decode cX12_feed 98 = .ok (.goto (-43), 3) := by decide +kernel
theorem dX12_feed_101 : decode cX12_feed 101 = .ok (.aload_n 0, 1) := by decide +kernel
theorem dX12_feed_102 : decode cX12_feed 102 = .ok (.dup, 1) := by decide +kernel
theorem dX12_feed_103 : decode cX12_feed 103 = .ok (.getfield 138, 3) := by decide +kernel
theorem dX12_feed_106 : decode cX12_feed 106 = .ok (.bipush 20, 2) := by decide +kernel
theorem dX12_feed_108 : decode cX12_feed 108 = .ok (.iadd, 1) := by decide +kernel
theorem dX12_feed_109 : decode cX12_feed 109 = .ok (.putfield 138, 3) := by decide +kernel
theorem dX12_feed_112 : decode cX12_feed 112 = .ok (.aload_n 0, 1) := by decide +kernel
theorem dX12_feed_113 : decode cX12_feed 113 = .ok (.getfield 138, 3) := by decide +kernel
theorem dX12_feed_116 : decode cX12_feed 116 = .ok (.ireturn, 1) := by decide +kernel
theorem dX12_end_0 : decode cX12_end 0 = .ok (.iload_n 1, 1) := by decide +kernel
theorem dX12_end_1 : decode cX12_end 1 = .ok (.iconst 0, 1) := by decide +kernel
theorem dX12_end_2 : decode cX12_end 2 = .ok (.aload_n 0, 1) := by decide +kernel
theorem dX12_end_3 : decode cX12_end 3 = .ok (.getfield 138, 3) := by decide +kernel
theorem dX12_end_6 : decode cX12_end 6 = .ok (.invokestatic 96, 3) := by decide +kernel
theorem dX12_end_9 : decode cX12_end 9 = .ok (.ifCond .ne 5, 3) := by decide +kernel
theorem dX12_end_12 : decode cX12_end 12 = .ok (.iconst (-1), 1) := by decide +kernel
theorem dX12_end_13 : decode cX12_end 13 = .ok (.ireturn, 1) := by decide +kernel
theorem dX12_end_14 : decode cX12_end 14 = .ok (.aload_n 0, 1) := by decide +kernel
theorem dX12_end_15 : decode cX12_end 15 = .ok (.iload_n 1, 1) := by decide +kernel
theorem dX12_end_16 : decode cX12_end 16 = .ok (.putfield 138, 3) := by decide +kernel
theorem dX12_end_19 : decode cX12_end 19 = .ok (.iload_n 1, 1) := by decide +kernel
theorem dX12_end_20 : decode cX12_end 20 = .ok (.ireturn, 1) := by decide +kernel
theorem kc_m6 : kb (-6) (-6) (-6) := ⟨by decide +kernel, by decide +kernel⟩
set_option maxHeartbeats 4000000 in
set_option maxRecDepth 100000 in
theorem m_feed  (l : Launch) {D : va_G} {K : Nat → ClassId} (o : Nat) (r : Nat → Nat) (f : Nat → Int32) (a : Nat → Nat → Int32) (g : Nat → Int64) (hI : mI f a) (x1 : Int32) (x2 : Int32) (x3 : Int32) (x4 : Int32) (x5 : Int32)    : kI l yX12_feed (Cond.code yX12_feed cX12_feed 7 (some .int) :: kG) (rmD 1 0 0) D (tysK K) [.ref o, .int x1, .int x2, .int x3, .int x4, .int x5] (mW K o r f a g) (fun v (u : mS) => kb (-2147483648) v 2147483647 ∧ mI u.1 u.2.1 ∧ mF (XR []) f a u.1 u.2.1 ∧ v = mFeedV (f 13) ∧ u.1 13 = mFeedT (f 13) ∧ u.2.1 11 = mFeedA (f 13) x1 x2 x3 x4 x5 (a 11) ∧ u.1 6 = f 6 ∧ u.1 14 = f 14 ∧ mZ [13] [11, 12] f a u.1 u.2.1) (fun u => mW K o r u.1 u.2.1 u.2.2) 0 0 := by
  refine kI.of (cc := cX12_feed) (maxL := 7) (ret := (some .int)) (by decide) rfl (Nat.le_of_ble_eq_true rfl) ?_
  intro p e s m below meth c A hx hb hr hml hown hts hlocks hnm hK hP hD hS hA ls hl
  have hE : mF (XR []) f a f a := mF_rf
  have hZ : mZ [13] [11, 12] f a f a := mZ_rf
  have hg : ∀ w ∈ kG, w.before _ s = true := fun w h => hts w (List.mem_cons_of_mem _ h)
  have hown : s.vm.findClass RX12 = some m.cls := hown
  have hl : lv_has ls 7 [(0, .ref o), (1, .int x1), (2, .int x2), (3, .int x3), (4, .int x4), (5, .int x5)] := hl
  obtain ⟨c13_f, ec13_f⟩ : ∃ z : Int32, z = f 13 := ⟨_, rfl⟩
  have b1 : kb 0 c13_f 400 := kb_eq ec13_f (fI_at hI.1 13 (by decide) (by decide))
  obtain ⟨c6_f, ec6_f⟩ : ∃ z : Int32, z = f 6 := ⟨_, rfl⟩
  obtain ⟨c14_f, ec14_f⟩ : ∃ z : Int32, z = f 14 := ⟨_, rfl⟩
  refine lv_aload_n hx hb dX12_feed_0 rfl (lv_at hl 0 rfl) ?_
  refine va_get (D := D) (ci := 12) (v := .int (f 13)) (C := RX12) (T := TX12) (N := 48) hx hb hg inC12 hown hK hP 0 rfl rfl 13 (by decide) (hg _ wt5_173) (fun _ h9 => h9) rfl dX12_feed_1 ?_
  refine k_top (z := c13_f) ec13_f.symm ?_
  refine lv_bipush (v := 20) hx hb dX12_feed_4 (by decide) ?_
  refine lv_iadd hx hb dX12_feed_6 ?_
  refine lv_topi (fun t2 et2 => ?_)
  have b3 : kb 20 t2 420 := kb_eq et2 (kb_add b1 kc_20 (by decide) (by decide))
  have qt2 : t2.toInt = c13_f.toInt + 20 := by rw [et2]; exact kt_addc b1 kc_20 (by decide) (by decide)
  refine lv_sipush (v := 400) hx hb dX12_feed_7 (by decide) ?_
  refine lv_icmp_le (tgt := 15) hx hb dX12_feed_10 (by decide) (fun c4 => ?_) (fun c4 => ?_)
  · have h5 := (kc_le c4)
    have b6 : kb 20 t2 400 := kr_le1 h5 b3 kc_400
    obtain ⟨T, hT⟩ : ∃ T : Nat, (T : Int) = c13_f.toInt := ⟨c13_f.toInt.toNat, by have w1 := (b1).1; omega⟩
    have b7 : kb 0 c13_f 380 := ⟨b1.1, by have h1 := b6.2; omega⟩
    refine lv_aload_n hx hb dX12_feed_15 rfl (lv_at hl 0 rfl) ?_
    refine va_get (D := D) (ci := 12) (v := .ref (r 12)) (C := RX12) (T := TX12) (N := 48) hx hb hg inC12 hown hK hP 0 rfl rfl 12 (by decide) (hg _ wt5_172) (fun _ h9 => h9) rfl dX12_feed_16 ?_
    refine lv_iconst (v := 0) hx hb dX12_feed_19 (by decide) ?_
    refine lv_iload_n hx hb dX12_feed_20 rfl (lv_at hl 1 rfl) ?_
    refine va_iast hx hb hK hP hD hS 8 0 rfl rfl (kb_in kc_0 (by decide) (by decide)) dX12_feed_21 (fun H locs hP hD hS => ?_)
    rw [cl_0] at hP hD
    have hP : va_P D vwCl (mW K o r f (va_up a 12 (upd (a 12) 0 x1)) g) H := hP
    have hD : va_D A (mW K o r f (va_up a 12 (upd (a 12) 0 x1)) g) := hD
    refine k_gen (P := fun z => va_P D vwCl (mW K o r f z g) H ∧ va_D A (mW K o r f z g) ∧ (mI f z) ∧ (mF (XR []) f a f z) ∧ (mZ [13] [11, 12] f a f z)) (va_up a 12 (upd (a 12) 0 x1)) ⟨hP, hD, (mI_s hI (aI_free hI.2.1 12 _ (fun j => ⟨by show (mBa 12 j).1 ≤ _; exact Int.le_refl _, by show _ ≤ (mBa 12 j).2; exact Int.le_refl _⟩)) (by decide) (by decide)), (mF_s hE (by decide) (by decide) (by decide)), (mZ_a hZ rfl)⟩ (fun a_8 ea_8 hq => ?_)
    obtain ⟨hP, hD, hI, hE, hZ⟩ := hq
    refine lv_aload_n hx hb dX12_feed_22 rfl (lv_at hl 0 rfl) ?_
    refine va_get (D := D) (ci := 12) (v := .ref (r 12)) (C := RX12) (T := TX12) (N := 48) hx hb hg inC12 hown hK hP 0 rfl rfl 12 (by decide) (hg _ wt5_172) (fun _ h9 => h9) rfl dX12_feed_23 ?_
    refine lv_iconst (v := 1) hx hb dX12_feed_26 (by decide) ?_
    refine lv_iload_n hx hb dX12_feed_27 rfl (lv_at hl 2 rfl) ?_
    refine va_iast hx hb hK hP hD hS 8 0 rfl rfl (kb_in kc_1 (by decide) (by decide)) dX12_feed_28 (fun H locs hP hD hS => ?_)
    rw [cl_1] at hP hD
    have hP : va_P D vwCl (mW K o r f (va_up a_8 12 (upd (a_8 12) 1 x2)) g) H := hP
    have hD : va_D A (mW K o r f (va_up a_8 12 (upd (a_8 12) 1 x2)) g) := hD
    refine k_gen (P := fun z => va_P D vwCl (mW K o r f z g) H ∧ va_D A (mW K o r f z g) ∧ (mI f z) ∧ (mF (XR []) f a f z) ∧ (mZ [13] [11, 12] f a f z)) (va_up a_8 12 (upd (a_8 12) 1 x2)) ⟨hP, hD, (mI_s hI (aI_free hI.2.1 12 _ (fun j => ⟨by show (mBa 12 j).1 ≤ _; exact Int.le_refl _, by show _ ≤ (mBa 12 j).2; exact Int.le_refl _⟩)) (by decide) (by decide)), (mF_s hE (by decide) (by decide) (by decide)), (mZ_a hZ rfl)⟩ (fun a_9 ea_9 hq => ?_)
    obtain ⟨hP, hD, hI, hE, hZ⟩ := hq
    refine lv_aload_n hx hb dX12_feed_29 rfl (lv_at hl 0 rfl) ?_
    refine va_get (D := D) (ci := 12) (v := .ref (r 12)) (C := RX12) (T := TX12) (N := 48) hx hb hg inC12 hown hK hP 0 rfl rfl 12 (by decide) (hg _ wt5_172) (fun _ h9 => h9) rfl dX12_feed_30 ?_
    refine lv_iconst (v := 2) hx hb dX12_feed_33 (by decide) ?_
    refine lv_iload_n hx hb dX12_feed_34 rfl (lv_at hl 3 rfl) ?_
    refine va_iast hx hb hK hP hD hS 8 0 rfl rfl (kb_in kc_2 (by decide) (by decide)) dX12_feed_35 (fun H locs hP hD hS => ?_)
    rw [cl_2] at hP hD
    have hP : va_P D vwCl (mW K o r f (va_up a_9 12 (upd (a_9 12) 2 x3)) g) H := hP
    have hD : va_D A (mW K o r f (va_up a_9 12 (upd (a_9 12) 2 x3)) g) := hD
    refine k_gen (P := fun z => va_P D vwCl (mW K o r f z g) H ∧ va_D A (mW K o r f z g) ∧ (mI f z) ∧ (mF (XR []) f a f z) ∧ (mZ [13] [11, 12] f a f z)) (va_up a_9 12 (upd (a_9 12) 2 x3)) ⟨hP, hD, (mI_s hI (aI_free hI.2.1 12 _ (fun j => ⟨by show (mBa 12 j).1 ≤ _; exact Int.le_refl _, by show _ ≤ (mBa 12 j).2; exact Int.le_refl _⟩)) (by decide) (by decide)), (mF_s hE (by decide) (by decide) (by decide)), (mZ_a hZ rfl)⟩ (fun a_10 ea_10 hq => ?_)
    obtain ⟨hP, hD, hI, hE, hZ⟩ := hq
    refine lv_aload_n hx hb dX12_feed_36 rfl (lv_at hl 0 rfl) ?_
    refine va_get (D := D) (ci := 12) (v := .ref (r 12)) (C := RX12) (T := TX12) (N := 48) hx hb hg inC12 hown hK hP 0 rfl rfl 12 (by decide) (hg _ wt5_172) (fun _ h9 => h9) rfl dX12_feed_37 ?_
    refine lv_iconst (v := 3) hx hb dX12_feed_40 (by decide) ?_
    refine lv_iload hx hb dX12_feed_41 (lv_at hl 4 rfl) ?_
    refine va_iast hx hb hK hP hD hS 8 0 rfl rfl (kb_in kc_3 (by decide) (by decide)) dX12_feed_43 (fun H locs hP hD hS => ?_)
    rw [cl_3] at hP hD
    have hP : va_P D vwCl (mW K o r f (va_up a_10 12 (upd (a_10 12) 3 x4)) g) H := hP
    have hD : va_D A (mW K o r f (va_up a_10 12 (upd (a_10 12) 3 x4)) g) := hD
    refine k_gen (P := fun z => va_P D vwCl (mW K o r f z g) H ∧ va_D A (mW K o r f z g) ∧ (mI f z) ∧ (mF (XR []) f a f z) ∧ (mZ [13] [11, 12] f a f z)) (va_up a_10 12 (upd (a_10 12) 3 x4)) ⟨hP, hD, (mI_s hI (aI_free hI.2.1 12 _ (fun j => ⟨by show (mBa 12 j).1 ≤ _; exact Int.le_refl _, by show _ ≤ (mBa 12 j).2; exact Int.le_refl _⟩)) (by decide) (by decide)), (mF_s hE (by decide) (by decide) (by decide)), (mZ_a hZ rfl)⟩ (fun a_11 ea_11 hq => ?_)
    obtain ⟨hP, hD, hI, hE, hZ⟩ := hq
    refine lv_aload_n hx hb dX12_feed_44 rfl (lv_at hl 0 rfl) ?_
    refine va_get (D := D) (ci := 12) (v := .ref (r 12)) (C := RX12) (T := TX12) (N := 48) hx hb hg inC12 hown hK hP 0 rfl rfl 12 (by decide) (hg _ wt5_172) (fun _ h9 => h9) rfl dX12_feed_45 ?_
    refine lv_iconst (v := 4) hx hb dX12_feed_48 (by decide) ?_
    refine lv_iload hx hb dX12_feed_49 (lv_at hl 5 rfl) ?_
    refine va_iast hx hb hK hP hD hS 8 0 rfl rfl (kb_in kc_4 (by decide) (by decide)) dX12_feed_51 (fun H locs hP hD hS => ?_)
    rw [cl_4] at hP hD
    have hP : va_P D vwCl (mW K o r f (va_up a_11 12 (upd (a_11 12) 4 x5)) g) H := hP
    have hD : va_D A (mW K o r f (va_up a_11 12 (upd (a_11 12) 4 x5)) g) := hD
    refine k_gen (P := fun z => va_P D vwCl (mW K o r f z g) H ∧ va_D A (mW K o r f z g) ∧ (mI f z) ∧ (mF (XR []) f a f z) ∧ (mZ [13] [11, 12] f a f z)) (va_up a_11 12 (upd (a_11 12) 4 x5)) ⟨hP, hD, (mI_s hI (aI_free hI.2.1 12 _ (fun j => ⟨by show (mBa 12 j).1 ≤ _; exact Int.le_refl _, by show _ ≤ (mBa 12 j).2; exact Int.le_refl _⟩)) (by decide) (by decide)), (mF_s hE (by decide) (by decide) (by decide)), (mZ_a hZ rfl)⟩ (fun a_12 ea_12 hq => ?_)
    obtain ⟨hP, hD, hI, hE, hZ⟩ := hq
    refine lv_iconst (v := 0) hx hb dX12_feed_52 (by decide) ?_
    refine lv_istore (lv' := [(6, .int 0), (0, .ref o), (1, .int x1), (2, .int x2), (3, .int x3), (4, .int x4), (5, .int x5)]) hx hb dX12_feed_53 hl (by decide) rfl (fun ls hl => ?_)
    have lp15 : ∀ (n16 : Nat) (k : Nat) (B14 : Nat → Nat → Int32) (H : Heap) (locs : List Loc) (ls : Array Slot) (y13 : Int32), ((20 : Int) < (k : Int) + (n16 : Int)) → (mI f B14) → (mF (XR []) f a f B14) → (mZ [13] [11, 12] f a f B14) → (kb 0 y13 20) → (B14 11 = mCp (tS x1 x2 x3 x4 x5) (a 11) 0 T k) → (B14 12 0 = x1 ∧ B14 12 1 = x2 ∧ B14 12 2 = x3 ∧ B14 12 3 = x4 ∧ B14 12 4 = x5) → (y13.toInt = (k : Int)) → (k ≤ 20) → va_P D vwCl (mW K o r f B14 g) H → va_D A (mW K o r f B14 g) → va_S A s.heap H locs → lv_has ls 7 [(6, .int y13), (0, .ref o), (1, .int x1), (2, .int x2), (3, .int x3), (4, .int x4), (5, .int x5)] → W p l e (rmD 1 0 0) s m ([.ref o, .int x1, .int x2, .int x3, .int x4, .int x5] : List Value).toArray below meth c H locs 0 0 (kQi D (tysK K) (fun v (u : mS) => kb (-2147483648) v 2147483647 ∧ mI u.1 u.2.1 ∧ mF (XR []) f a u.1 u.2.1 ∧ v = mFeedV (f 13) ∧ u.1 13 = mFeedT (f 13) ∧ u.2.1 11 = mFeedA (f 13) x1 x2 x3 x4 x5 (a 11) ∧ u.1 6 = f 6 ∧ u.1 14 = f 14 ∧ mZ [13] [11, 12] f a u.1 u.2.1) (fun u => mW K o r u.1 u.2.1 u.2.2) A below ([.ref o, .int x1, .int x2, .int x3, .int x4, .int x5] : List Value).toArray s 0 0) (F0 m 55 ls []) := by
      intro n16
      induction n16 with
      | zero =>
        intro k B14  H locs ls y13 hmlp15 hI hE hZ b17 hvlp15_0 hvlp15_1 hvlp15_2 hvlp15_3 hP hD hS hl
        exact (by have w1 := hmlp15; have w2 := hvlp15_3; omega : False).elim
      | succ n16 ihlp15 =>
        intro k B14  H locs ls y13 hmlp15 hI hE hZ b17 hvlp15_0 hvlp15_1 hvlp15_2 hvlp15_3 hP hD hS hl
        refine lv_iload hx hb dX12_feed_55 (lv_at hl 0 rfl) ?_
        refine lv_bipush (v := 20) hx hb dX12_feed_57 (by decide) ?_
        refine lv_icmp_ge (tgt := 101) hx hb dX12_feed_59 (by decide) (fun c18 => ?_) (fun c18 => ?_)
        · have h19 := (kc_le c18)
          have b20 : kb 20 y13 20 := kr_le2 h19 kc_20 b17
          have hkN : k = 20 := by have w1 := (b20).1; have w2 := hvlp15_2; have w3 := hvlp15_3; omega
          have hB := hvlp15_0
          rw [hkN] at hB
          refine lv_aload_n hx hb dX12_feed_101 rfl (lv_at hl 1 rfl) ?_
          refine lv_dup hx hb dX12_feed_102 rfl ?_
          refine va_get (D := D) (ci := 12) (v := .int (f 13)) (C := RX12) (T := TX12) (N := 48) hx hb hg inC12 hown hK hP 0 rfl rfl 13 (by decide) (hg _ wt5_173) (fun _ h9 => h9) rfl dX12_feed_103 ?_
          refine k_top (z := c13_f) ec13_f.symm ?_
          refine lv_bipush (v := 20) hx hb dX12_feed_106 (by decide) ?_
          refine lv_iadd hx hb dX12_feed_108 ?_
          refine k_top (z := t2) et2.symm ?_
          refine va_put (D := D) (ci := 12) (v := .int t2) (ty := .int) (C := RX12) (T := TX12) (N := 48) hx hb hg inC12 tyX12 tyX12_ok nmX12 hown hK hP hD hS 0 rfl rfl 13 (by decide) (hg _ wt5_173) (fun _ h9 => h9) rfl (by decide +kernel) rfl rfl (Nat.le_of_ble_eq_true rfl) dX12_feed_109 (fun H locs hP hD hS => ?_)
          have hP : va_P D vwCl (mW K o r (upd f 13 t2) B14 g) H := hP
          have hD : va_D A (mW K o r (upd f 13 t2) B14 g) := hD
          refine k_gen (P := fun z => va_P D vwCl (mW K o r z B14 g) H ∧ va_D A (mW K o r z B14 g) ∧ (mI z B14) ∧ (mF (XR []) f a z B14) ∧ (mZ [13] [11, 12] f a z B14)) (upd f 13 t2) ⟨hP, hD, (mI_f hI (fI_st hI.1 13 b6 (by decide) (by decide))), (mF_f hE), (mZ_f hZ rfl)⟩ (fun f_21 ef_21 hq => ?_)
          obtain ⟨hP, hD, hI, hE, hZ⟩ := hq
          refine lv_aload_n hx hb dX12_feed_112 rfl (lv_at hl 1 rfl) ?_
          refine va_get (D := D) (ci := 12) (v := .int (f_21 13)) (C := RX12) (T := TX12) (N := 48) hx hb hg inC12 hown hK hP 0 rfl rfl 13 (by decide) (hg _ wt5_173) (fun _ h9 => h9) rfl dX12_feed_113 ?_
          refine k_top (z := t2) (show f_21 13 = t2 from by rw [← ef_21]; rfl) ?_
          exact kI_ret (v := t2) hx hb hr hlocks rfl hK hS dX12_feed_116 (f_21, B14, g) hP hD ⟨(kb_w b6 (by decide) (by decide)), hI, hE, (by unfold mFeedV; rw [if_neg (by rw [← ec13_f]; have h1 := (b6).1; have h2 := (b6).2; omega), ← ec13_f]; exact et2), (by unfold mFeedT; rw [if_neg (by rw [← ec13_f]; have h1 := (b6).1; have h2 := (b6).2; omega), ← ec13_f, ← et2]; exact (show f_21 13 = t2 from by rw [← ef_21]; rfl)), (show B14 11 = mFeedA (f 13) x1 x2 x3 x4 x5 (a 11) from by unfold mFeedA; rw [if_neg (by rw [← ec13_f]; have h1 := (b6).1; have h2 := (b6).2; omega), ← ec13_f, show c13_f.toNatClampNeg = T from (by unfold Int32.toNatClampNeg; omega)]; exact hB), ((((show f_21 6 = f 6 from by rw [← ef_21]; rfl).trans ec6_f.symm)).trans ec6_f), ((((show f_21 14 = f 14 from by rw [← ef_21]; rfl).trans ec14_f.symm)).trans ec14_f), hZ⟩
        · have h22 := (kc_nle c18)
          have b23 : kb 0 y13 19 := kr_lt1 h22 b17 kc_20 (by decide)
          refine lv_aload_n hx hb dX12_feed_62 rfl (lv_at hl 1 rfl) ?_
          refine va_get (D := D) (ci := 12) (v := .ref (r 11)) (C := RX12) (T := TX12) (N := 48) hx hb hg inC12 hown hK hP 0 rfl rfl 11 (by decide) (hg _ wt5_171) (fun _ h9 => h9) rfl dX12_feed_63 ?_
          refine lv_aload_n hx hb dX12_feed_66 rfl (lv_at hl 1 rfl) ?_
          refine va_get (D := D) (ci := 12) (v := .int (f 13)) (C := RX12) (T := TX12) (N := 48) hx hb hg inC12 hown hK hP 0 rfl rfl 13 (by decide) (hg _ wt5_173) (fun _ h9 => h9) rfl dX12_feed_67 ?_
          refine k_top (z := c13_f) ec13_f.symm ?_
          refine lv_iload hx hb dX12_feed_70 (lv_at hl 0 rfl) ?_
          refine lv_iadd hx hb dX12_feed_72 ?_
          refine lv_topi (fun t24 et24 => ?_)
          have b25 : kb 0 t24 399 := kb_eq et24 (kb_add b7 b23 (by decide) (by decide))
          have qt24 : t24.toInt = c13_f.toInt + y13.toInt := by rw [et24]; exact kt_add b7 b23 (by decide) (by decide)
          refine lv_aload_n hx hb dX12_feed_73 rfl (lv_at hl 1 rfl) ?_
          refine va_get (D := D) (ci := 12) (v := .ref (r 12)) (C := RX12) (T := TX12) (N := 48) hx hb hg inC12 hown hK hP 0 rfl rfl 12 (by decide) (hg _ wt5_172) (fun _ h9 => h9) rfl dX12_feed_74 ?_
          refine lv_iload hx hb dX12_feed_77 (lv_at hl 0 rfl) ?_
          refine lv_iconst (v := 4) hx hb dX12_feed_79 (by decide) ?_
          refine lv_idiv hx hb dX12_feed_80 (by decide +kernel) ?_
          refine lv_topi (fun t26 et26 => ?_)
          have b27 : kb 0 t26 4 := kb_eq et26 (kb_div (d := 4) b23 (by decide) rfl (by decide) (by decide))
          have qt26 : t26.toInt = y13.toInt / 4 := by rw [et26]; exact kt_div (d := 4) b23 (by decide) rfl (by decide) (by decide)
          refine va_iald hx hb hK hP 8 0 rfl rfl (kb_in b27 (by decide) (by decide)) dX12_feed_81 ?_
          refine lv_topi (fun t28 et28 => ?_)
          refine lv_bipush (v := 24) hx hb dX12_feed_82 (by decide) ?_
          refine lv_bipush (v := 8) hx hb dX12_feed_84 (by decide) ?_
          refine lv_iload hx hb dX12_feed_86 (lv_at hl 0 rfl) ?_
          refine lv_iconst (v := 4) hx hb dX12_feed_88 (by decide) ?_
          refine lv_irem hx hb dX12_feed_89 (by decide +kernel) ?_
          refine lv_topi (fun t29 et29 => ?_)
          have b30 : kb 0 t29 3 := kb_eq et29 (kb_rem (d := 4) b23 (by decide) rfl (by decide) (by decide))
          refine lv_imul hx hb dX12_feed_90 ?_
          refine lv_topi (fun t31 et31 => ?_)
          have b32 : kb 0 t31 24 := kb_eq et31 (kb_mul kc_8 b30 (by decide) (by decide) (by decide))
          have qt31 : t31.toInt = 8 * t29.toInt := by rw [et31]; exact kt_cmul kc_8 b30 (by decide) (by decide) (by decide)
          refine lv_isub hx hb dX12_feed_91 ?_
          refine lv_topi (fun t33 et33 => ?_)
          have b34 : kb 0 t33 24 := kb_eq et33 (kb_sub kc_24 b32 (by decide) (by decide))
          have qt33 : t33.toInt = 24 - t31.toInt := by rw [et33]; exact kt_csub kc_24 b32 (by decide) (by decide)
          refine lv_ishr hx hb dX12_feed_92 ?_
          refine lv_topi (fun t35 et35 => ?_)
          refine lv_i2b hx hb dX12_feed_93 rfl ?_
          refine lv_topi (fun t36 et36 => ?_)
          have b37 : kb (-128) t36 127 := kb_eq et36 (kb_i2b _)
          refine va_bast hx hb hK hP hD hS 7 1 rfl rfl (kb_in b25 (by decide) (by decide)) dX12_feed_94 (fun H locs hP hD hS => ?_)
          have hP : va_P D vwCl (mW K o r f (va_up B14 11 (upd (B14 11) t24.toNatClampNeg (vp_nar .byte t36))) g) H := hP
          have hD : va_D A (mW K o r f (va_up B14 11 (upd (B14 11) t24.toNatClampNeg (vp_nar .byte t36))) g) := hD
          refine k_gen (P := fun z => va_P D vwCl (mW K o r f z g) H ∧ va_D A (mW K o r f z g) ∧ (mI f z) ∧ (mF (XR []) f a f z) ∧ (mZ [13] [11, 12] f a f z)) (va_up B14 11 (upd (B14 11) t24.toNatClampNeg (vp_nar .byte t36))) ⟨hP, hD, (mI_s hI (aI_free hI.2.1 11 _ (fun j => ⟨by show (mBa 11 j).1 ≤ _; exact Int.le_refl _, by show _ ≤ (mBa 11 j).2; exact Int.le_refl _⟩)) (by decide) (by decide)), (mF_s hE (by decide) (by decide) (by decide)), (mZ_a hZ rfl)⟩ (fun a_38 ea_38 hq => ?_)
          obtain ⟨hP, hD, hI, hE, hZ⟩ := hq
          obtain ⟨t39, et39⟩ : ∃ z : Int32, z = y13 + Int32.ofInt 1 := ⟨_, rfl⟩
          have qt39 : t39.toInt = y13.toInt + 1 := by rw [et39]; exact km_inc b23 (by decide) (by decide)
          have b40 : kb 1 t39 20 := kb_inc (k := 1) qt39 b23
          refine lv_iinc (v := t39) (lv' := [(6, .int t39), (0, .ref o), (1, .int x1), (2, .int x2), (3, .int x3), (4, .int x4), (5, .int x5)]) hx hb dX12_feed_95 hl (k := 0) rfl et39.symm (by decide) rfl (fun ls hl => ?_)
          refine lv_goto (tgt := 55) hx hb dX12_feed_98 (by decide) ?_
          exact ihlp15 (k + 1) a_38 _ _ _ t39 (by omega) hI hE hZ (kb_w b40 (by decide) (by decide)) (mCp_in hvlp15_0 ea_38 (by have w1 := hvlp15_2; omega) (by have w1 := hvlp15_2; have w4 := (b23).2; have w2 : t26.toNatClampNeg = k / 4 := (by unfold Int32.toNatClampNeg; omega); have w3 : t29.toInt = y13.toInt % 4 := (by rw [et29]; exact kt_rem (d := 4) b23 (by decide) rfl (by decide) (by decide)); rw [Nat.zero_add, tS_at (hvlp15_1.1) (hvlp15_1.2.1) (hvlp15_1.2.2.1) (hvlp15_1.2.2.2.1) (hvlp15_1.2.2.2.2) (by omega), ← w2, ← et28]; exact tB_at (s := t33) (by omega) (by omega) (by rw [et36, et35]))) (⟨(by rw [← ea_38]; show B14 12 0 = x1; exact hvlp15_1.1), (by rw [← ea_38]; show B14 12 1 = x2; exact hvlp15_1.2.1), (by rw [← ea_38]; show B14 12 2 = x3; exact hvlp15_1.2.2.1), (by rw [← ea_38]; show B14 12 3 = x4; exact hvlp15_1.2.2.2.1), (by rw [← ea_38]; show B14 12 4 = x5; exact hvlp15_1.2.2.2.2)⟩) (by omega) (by have w1 := (b23).2; omega) hP hD hS (lv_sub hl [0, 1, 2, 3, 4, 5, 6] rfl)
    exact lp15 (21) 0 a_12 _ _ _ 0 (by omega) hI hE hZ (kb_w kc_0 (by decide) (by decide)) ((by rw [← ea_12, ← ea_11, ← ea_10, ← ea_9, ← ea_8]; exact mCp_0.symm)) (⟨((show a_12 12 0 = a_11 12 0 from by rw [← ea_12]; rfl).trans ((show a_11 12 0 = a_10 12 0 from by rw [← ea_11]; rfl).trans ((show a_10 12 0 = a_9 12 0 from by rw [← ea_10]; rfl).trans ((show a_9 12 0 = a_8 12 0 from by rw [← ea_9]; rfl).trans (show a_8 12 0 = x1 from by rw [← ea_8]; exact (pk_us (f := a 12) (k := 0) (x := x1))))))), ((show a_12 12 1 = a_11 12 1 from by rw [← ea_12]; rfl).trans ((show a_11 12 1 = a_10 12 1 from by rw [← ea_11]; rfl).trans ((show a_10 12 1 = a_9 12 1 from by rw [← ea_10]; rfl).trans (show a_9 12 1 = x2 from by rw [← ea_9]; exact (pk_us (f := a_8 12) (k := 1) (x := x2)))))), ((show a_12 12 2 = a_11 12 2 from by rw [← ea_12]; rfl).trans ((show a_11 12 2 = a_10 12 2 from by rw [← ea_11]; rfl).trans (show a_10 12 2 = x3 from by rw [← ea_10]; exact (pk_us (f := a_9 12) (k := 2) (x := x3))))), ((show a_12 12 3 = a_11 12 3 from by rw [← ea_12]; rfl).trans (show a_11 12 3 = x4 from by rw [← ea_11]; exact (pk_us (f := a_10 12) (k := 3) (x := x4)))), (show a_12 12 4 = x5 from by rw [← ea_12]; exact (pk_us (f := a_11 12) (k := 4) (x := x5)))⟩) (by decide +kernel) (Nat.zero_le _) hP hD hS (lv_sub hl [0, 1, 2, 3, 4, 5, 6] rfl)
  · have h41 := (kc_nle c4)
    have b42 : kb 401 t2 420 := kr_lt2 h41 kc_400 b3 (by decide)
    refine lv_iconst (v := (-1)) hx hb dX12_feed_13 (by decide) ?_
    exact kI_ret (v := (-1)) hx hb hr hlocks rfl hK hS dX12_feed_14 (f, a, g) hP hD ⟨(kb_w kc_m1 (by decide) (by decide)), hI, hE, (by unfold mFeedV; rw [if_pos (by rw [← ec13_f]; have h1 := (b42).1; have h2 := (b42).2; omega)]), (by unfold mFeedT; rw [if_pos (by rw [← ec13_f]; have h1 := (b42).1; have h2 := (b42).2; omega)]), (show a 11 = mFeedA (f 13) x1 x2 x3 x4 x5 (a 11) from by unfold mFeedA; rw [if_pos (by rw [← ec13_f]; have h1 := (b42).1; have h2 := (b42).2; omega)]), ((ec6_f.symm).trans ec6_f), ((ec14_f.symm).trans ec14_f), hZ⟩
set_option maxHeartbeats 4000000 in
set_option maxRecDepth 100000 in
theorem m_end  (l : Launch) {D : va_G} {K : Nat → ClassId} (o : Nat) (r : Nat → Nat) (f : Nat → Int32) (a : Nat → Nat → Int32) (g : Nat → Int64) (hI : mI f a) (x : Int32)    : kI l yX12_end (Cond.code yX12_end cX12_end 2 (some .int) :: kG) (rmD 2 0 0) D (tysK K) [.ref o, .int x] (mW K o r f a g) (fun v (u : mS) => kb (-2147483648) v 2147483647 ∧ mI u.1 u.2.1 ∧ mF (XR []) f a u.1 u.2.1 ∧ v = (if mLies x 0 (f 13) = 0 then -1 else x) ∧ u.1 13 = (if mLies x 0 (f 13) = 0 then f 13 else x) ∧ u.2.1 11 = a 11 ∧ u.1 6 = f 6 ∧ u.1 14 = f 14 ∧ mZ [13] [] f a u.1 u.2.1) (fun u => mW K o r u.1 u.2.1 u.2.2) 0 0 := by
  refine kI.of (cc := cX12_end) (maxL := 2) (ret := (some .int)) (by decide) rfl (Nat.le_of_ble_eq_true rfl) ?_
  intro p e s m below meth c A hx hb hr hml hown hts hlocks hnm hK hP hD hS hA ls hl
  have hE : mF (XR []) f a f a := mF_rf
  have hZ : mZ [13] [] f a f a := mZ_rf
  have hg : ∀ w ∈ kG, w.before _ s = true := fun w h => hts w (List.mem_cons_of_mem _ h)
  have hown : s.vm.findClass RX12 = some m.cls := hown
  have hl : lv_has ls 2 [(0, .ref o), (1, .int x)] := hl
  obtain ⟨c13_f, ec13_f⟩ : ∃ z : Int32, z = f 13 := ⟨_, rfl⟩
  have b1 : kb 0 c13_f 400 := kb_eq ec13_f (fI_at hI.1 13 (by decide) (by decide))
  obtain ⟨c6_f, ec6_f⟩ : ∃ z : Int32, z = f 6 := ⟨_, rfl⟩
  obtain ⟨c14_f, ec14_f⟩ : ∃ z : Int32, z = f 14 := ⟨_, rfl⟩
  refine lv_iload_n hx hb dX12_end_0 rfl (lv_at hl 1 rfl) ?_
  refine lv_iconst (v := 0) hx hb dX12_end_1 (by decide) ?_
  refine lv_aload_n hx hb dX12_end_2 rfl (lv_at hl 0 rfl) ?_
  refine va_get (D := D) (ci := 12) (v := .int (f 13)) (C := RX12) (T := TX12) (N := 48) hx hb hg inC12 hown hK hP 0 rfl rfl 13 (by decide) (hg _ wt5_173) (fun _ h9 => h9) rfl dX12_end_3 ?_
  refine k_top (z := c13_f) ec13_f.symm ?_
  refine kN.callS (As := [.int x, .int 0, .int c13_f]) (rest := []) ⟨hx, hb, hml, hown, hg⟩ (m_lies l x 0 c13_f ) (va_cwS 3 hg (kgS wt6_69 wt6_70 wt1_14 wt6_71) rfl rfl rfl (by decide +kernel) ⟨by decide, by decide⟩) hP hS rfl hl.1 rfl (Nat.le_of_ble_eq_true rfl) dX12_end_6 ⟨Nat.le_refl _, Nat.le_refl _⟩ (fun v3 H locs hw2 hP hS => ?_)
  refine lv_if_ne (tgt := 14) hx hb dX12_end_9 (by decide) (fun c5 => ?_) (fun c5 => ?_)
  · have b6 : kb 1 v3 1 := kr_nel c5 hw2.1 kc_0 (by decide)
    have h7 := mLies_ne (hw2.2 ▸ c5)
    have b8 : kb 0 x 2147483647 := kr_le2 h7.1 kc_0 (kb_any x)
    have b9 : kb 0 x 400 := kr_le1 h7.2 b8 b1
    refine lv_aload_n hx hb dX12_end_14 rfl (lv_at hl 0 rfl) ?_
    refine lv_iload_n hx hb dX12_end_15 rfl (lv_at hl 1 rfl) ?_
    refine va_put (D := D) (ci := 12) (v := .int x) (ty := .int) (C := RX12) (T := TX12) (N := 48) hx hb hg inC12 tyX12 tyX12_ok nmX12 hown hK hP hD hS 0 rfl rfl 13 (by decide) (hg _ wt5_173) (fun _ h9 => h9) rfl (by decide +kernel) rfl rfl (Nat.le_of_ble_eq_true rfl) dX12_end_16 (fun H locs hP hD hS => ?_)
    have hP : va_P D vwCl (mW K o r (upd f 13 x) a g) H := hP
    have hD : va_D A (mW K o r (upd f 13 x) a g) := hD
    refine k_gen (P := fun z => va_P D vwCl (mW K o r z a g) H ∧ va_D A (mW K o r z a g) ∧ (mI z a) ∧ (mF (XR []) f a z a) ∧ (mZ [13] [] f a z a)) (upd f 13 x) ⟨hP, hD, (mI_f hI (fI_st hI.1 13 b9 (by decide) (by decide))), (mF_f hE), (mZ_f hZ rfl)⟩ (fun f_10 ef_10 hq => ?_)
    obtain ⟨hP, hD, hI, hE, hZ⟩ := hq
    refine lv_iload_n hx hb dX12_end_19 rfl (lv_at hl 1 rfl) ?_
    exact kI_ret (v := x) hx hb hr hlocks rfl hK hS dX12_end_20 (f_10, a, g) hP hD ⟨(kb_w b9 (by decide) (by decide)), hI, hE, (by rw [← ec13_f, if_neg (fun q => c5 (hw2.2.trans q))]), (by rw [← ec13_f, if_neg (fun q => c5 (hw2.2.trans q))]; exact (show f_10 13 = x from by rw [← ef_10]; rfl)), rfl, ((((show f_10 6 = f 6 from by rw [← ef_10]; rfl).trans ec6_f.symm)).trans ec6_f), ((((show f_10 14 = f 14 from by rw [← ef_10]; rfl).trans ec14_f.symm)).trans ec14_f), hZ⟩
  · have b11 : kb 0 v3 0 := kb_eq c5 kc_0
    refine lv_iconst (v := (-1)) hx hb dX12_end_12 (by decide) ?_
    exact kI_ret (v := (-1)) hx hb hr hlocks rfl hK hS dX12_end_13 (f, a, g) hP hD ⟨(kb_w kc_m1 (by decide) (by decide)), hI, hE, (by rw [← ec13_f, if_pos (hw2.2.symm.trans c5)]), (by rw [← ec13_f, if_pos (hw2.2.symm.trans c5)]; exact ec13_f.symm), rfl, ((ec6_f.symm).trans ec6_f), ((ec14_f.symm).trans ec14_f), hZ⟩