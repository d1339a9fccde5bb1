def mFeedV (t : Int32) : Int32 := if 380 < t.toInt then -1 else t + 20
def mFeedT (t : Int32) : Int32 := if 380 < t.toInt then t else t + 20
/-! a row that is being copied -/
def mCp (src dst : Nat → Int32) (so d n j : Nat) : Int32 := if d ≤ j ∧ j < d + n then src (so + (j - d)) else dst j
theorem mCp_0 {src dst : Nat → Int32} {so d : Nat} : mCp src dst so d 0 = dst := by
  funext j
  unfold mCp
  rw [if_neg (by omega)]
theorem mCp_s {src dst : Nat → Int32} {so d n : Nat} : upd (mCp src dst so d n) (d + n) (src (so + n)) = mCp src dst so d (n + 1) := by
  funext j
  by_cases e : j = d + n
  · rw [e, pk_us]
    unfold mCp
    rw [if_pos (by omega)]
    congr 1; omega
  · rw [pk_un e]
    unfold mCp
    by_cases q : d ≤ j ∧ j < d + n
    · rw [if_pos q, if_pos (by omega)]
    · rw [if_neg q, if_neg (by omega)]
theorem mCp_in {B a' : Nat → Nat → Int32} {src dst : Nat → Int32} {s so d n : Nat} {x v : Int32} (hB : B s = mCp src dst so d n) (e : va_up B s (upd (B s) x.toNatClampNeg v) = a') (hx : x.toInt = ((d + n : Nat) : Int)) (hv : v = src (so + n)) : a' s = mCp src dst so d (n + 1) := by
  have x1 : a' s = upd (B s) x.toNatClampNeg v := by rw [← e]; unfold va_up; rw [if_pos rfl]
  have n1 : x.toNatClampNeg = d + n := by unfold Int32.toNatClampNeg; omega
  rw [x1, hB, n1, hv]
  exact mCp_s
/-! the tape's bytes -/
theorem kt_rem {l h : Int} {x y : Int32} {d : Nat} (b : kb l x h) (p : 0 ≤ l) (ey : y = nI d) (d0 : 0 < d) (d1 : d < 2 ^ 31) : (x - x / y * y).toInt = x.toInt % d := by
  obtain ⟨a, ea, ha, la⟩ := kn_nat b p
  have hm : a % d < d := Nat.mod_lt a d0
  rw [ea, ey, pk_rem la d0 d1, kn_to (Nat.lt_trans hm d1), kn_to la]
  rfl
def tB (x : Int32) (k : Nat) : Int32 := vp_nar .byte ((x >>> (nI (24 - 8 * k) &&& 31)).toInt8.toInt32)
def tS (x1 x2 x3 x4 x5 : Int32) (i : Nat) : Int32 := if i < 4 then tB x1 i else if i < 8 then tB x2 (i - 4) else if i < 12 then tB x3 (i - 8) else if i < 16 then tB x4 (i - 12) else tB x5 (i - 16)
theorem tB_at {x s v : Int32} {k : Nat} (hk : k < 4) (hs : s.toInt = 24 - 8 * (k : Int)) (hv : v = (x >>> (s &&& 31)).toInt8.toInt32) : vp_nar .byte v = tB x k := by
  have e : s = nI (24 - 8 * k) := Int32.toInt_inj.mp (by rw [nI_toInt (by omega), hs]; omega)
  unfold tB
  rw [hv, e]
theorem tS_at {x1 x2 x3 x4 x5 : Int32} {F : Nat → Int32} (h0 : F 0 = x1) (h1 : F 1 = x2) (h2 : F 2 = x3) (h3 : F 3 = x4) (h4 : F 4 = x5) {k : Nat} (hk : k < 20) : tS x1 x2 x3 x4 x5 k = tB (F (k / 4)) (k % 4) := by
  unfold tS
  by_cases q1 : k < 4
  · rw [if_pos q1, show k / 4 = 0 by omega, show k % 4 = k by omega, h0]
  · rw [if_neg q1]
    by_cases q2 : k < 8
    · rw [if_pos q2, show k / 4 = 1 by omega, show k % 4 = k - 4 by omega, h1]
    · rw [if_neg q2]
      by_cases q3 : k < 12
      · rw [if_pos q3, show k / 4 = 2 by omega, show k % 4 = k - 8 by omega, h2]
      · rw [if_neg q3]
        by_cases q4 : k < 16
        · rw [if_pos q4, show k / 4 = 3 by omega, show k % 4 = k - 12 by omega, h3]
        · rw [if_neg q4, show k / 4 = 4 by omega, show k % 4 = k - 16 by omega, h4]
theorem mCp_i {src dst : Nat → Int32} {so d n j k : Nat} (h : d ≤ j ∧ j < d + n) (hk : so + (j - d) = k) : mCp src dst so d n j = src k := by
  unfold mCp
  rw [if_pos h, hk]
theorem mCp_o {src dst : Nat → Int32} {so d n j : Nat} (h : ¬ (d ≤ j ∧ j < d + n)) : mCp src dst so d n j = dst j := by
  unfold mCp
  rw [if_neg h]
theorem mCp5 {x1 x2 x3 x4 x5 : Int32} {A : Nat → Int32} {T : Nat} : mCp (tB x5) (mCp (tB x4) (mCp (tB x3) (mCp (tB x2) (mCp (tB x1) A 0 T 4) 0 (T + 4) 4) 0 (T + 8) 4) 0 (T + 12) 4) 0 (T + 16) 4 = mCp (tS x1 x2 x3 x4 x5) A 0 T 20 := by
  funext j
  by_cases h : T ≤ j ∧ j < T + 20
  · rw [mCp_i (k := j - T) h (by omega)]
    unfold tS
    by_cases q1 : j - T < 4
    · rw [if_pos q1, mCp_o (by omega), mCp_o (by omega), mCp_o (by omega), mCp_o (by omega), mCp_i (k := j - T) (by omega) (by omega)]
    · rw [if_neg q1]
      by_cases q2 : j - T < 8
      · rw [if_pos q2, mCp_o (by omega), mCp_o (by omega), mCp_o (by omega), mCp_i (k := j - T - 4) (by omega) (by omega)]
      · rw [if_neg q2]
        by_cases q3 : j - T < 12
        · rw [if_pos q3, mCp_o (by omega), mCp_o (by omega), mCp_i (k := j - T - 8) (by omega) (by omega)]
        · rw [if_neg q3]
          by_cases q4 : j - T < 16
          · rw [if_pos q4, mCp_o (by omega), mCp_i (k := j - T - 12) (by omega) (by omega)]
          · rw [if_neg q4, mCp_i (k := j - T - 16) (by omega) (by omega)]
  · rw [mCp_o h, mCp_o (by omega), mCp_o (by omega), mCp_o (by omega), mCp_o (by omega), mCp_o (by omega)]
def mFeedA (t x1 x2 x3 x4 x5 : Int32) (A : Nat → Int32) : Nat → Int32 := if 380 < t.toInt then A else mCp (tS x1 x2 x3 x4 x5) A 0 t.toNatClampNeg 20
/-! rows of parts off the tape -/
def rSt (ok : Nat → Nat → Prop) (n0 : Nat) : Nat → Nat → Prop
  | 0, n => n = n0
  | k + 1, n => ∃ m, rSt ok n0 k m ∧ ((ok k m ∧ n = m + 1) ∨ (¬ ok k m ∧ n = m))
theorem rSt_eq {p q : Nat → Nat → Prop} {n0 : Nat} (h : ∀ k m, p k m ↔ q k m) (k : Nat) : ∀ a b : Nat, rSt p n0 k a → rSt q n0 k b → a = b := by
  induction k with
  | zero => intro a b h1 h2; exact Eq.trans h1 (Eq.symm h2)
  | succ k ih =>
    intro a b h1 h2
    obtain ⟨m1, r1, c1⟩ := h1
    obtain ⟨m2, r2, c2⟩ := h2
    have e := ih m1 m2 r1 r2
    subst e
    rcases c1 with ⟨o1, e1⟩ | ⟨o1, e1⟩ <;> rcases c2 with ⟨o2, e2⟩ | ⟨o2, e2⟩
    · omega
    · exact absurd ((h k m1).mp o1) o2
    · exact absurd ((h k m1).mpr o2) o1
    · omega
def rOKm (A : Nat → Int32) (k m : Nat) : Prop := m < 10 ∧ okPm (A (4 * k)) (A (4 * k + 1) &&& 255) (A (4 * k + 2)) (A (4 * k + 3)) (nI m)
/-- what row answers, how many parts there are then, and the chaff -/
def rowP (ok : Nat → Nat → Prop) (t v n n' c c' : Int32) : Prop := (t = 0 ∧ v = -6 ∧ n' = n ∧ c' = c) ∨ (¬ t = 0 ∧ ∃ m : Nat, rSt ok n.toInt.toNat (t.toInt.toNat / 4) m ∧ v.toInt = (m : Int) - n.toInt ∧ n'.toInt = (m : Int) ∧ c'.toInt + (m : Int) - n.toInt = (((t.toInt.toNat + 3) / 4 : Nat) : Int))
theorem row_eq {p q : Nat → Nat → Prop} {t v1 v2 n n1 n2 c c1 c2 : Int32} (h : ∀ k m, p k m ↔ q k m) (h1 : rowP p t v1 n n1 c c1) (h2 : rowP q t v2 n n2 c c2) : v1 = v2 ∧ n1 = n2 ∧ c1 = c2 := by
  rcases h1 with ⟨a1, b1, d1, e1⟩ | ⟨a1, m1, r1, b1, d1, e1⟩ <;> rcases h2 with ⟨a2, b2, d2, e2⟩ | ⟨a2, m2, r2, b2, d2, e2⟩
  · exact ⟨b1.trans b2.symm, d1.trans d2.symm, e1.trans e2.symm⟩
  · exact absurd a1 a2
  · exact absurd a2 a1
  · have em := rSt_eq h _ m1 m2 r1 r2
    subst em
    exact ⟨Int32.toInt_inj.mp (b1.trans b2.symm), Int32.toInt_inj.mp (d1.trans d2.symm), Int32.toInt_inj.mp (by omega)⟩
def rOKx (A : Nat → Int32) (k m : Nat) : Prop := m < 10 ∧ okPx (A (4 * k) &&& 255) (A (4 * k + 1) &&& 255) (A (4 * k + 2) &&& 255) (A (4 * k + 3) &&& 255) (nI m)
theorem wrt_1 {ok : Prop} {v n n' : Int32} (h : prtP ok v n n') (hv : 0 ≤ v.toInt) : ok ∧ n.toInt ≤ 9 ∧ n'.toInt = n.toInt + 1 := by
  have e1 : (-1 : Int32).toInt = -1 := by decide +kernel
  have e5 : (-5 : Int32).toInt = -5 := by decide +kernel
  rcases h with ⟨a1, -, -⟩ | ⟨a1, -, -, -⟩ | ⟨a1, o1, m1, c1⟩
  · rw [a1] at hv; omega
  · rw [a1] at hv; omega
  · exact ⟨o1, m1.2, c1⟩
theorem wrt_0 {ok : Prop} {v n n' : Int32} (h : prtP ok v n n') (hv : v.toInt < 0) (hn : 0 ≤ n.toInt) : ¬ (n.toInt ≤ 9 ∧ ok) ∧ n' = n := by
  rcases h with ⟨a1, n1, c1⟩ | ⟨a1, n1, m1, c1⟩ | ⟨a1, o1, m1, c1⟩
  · exact ⟨fun q => n1 q.2, c1⟩
  · exact ⟨fun q => m1 ⟨hn, q.1⟩, c1⟩
  · rw [a1] at hv; omega
theorem wrx_1 {v : Int32} {P Q R S : Prop} (h : (v = 1 ∧ P ∧ Q) ∨ (v = 0 ∧ R ∧ S)) (c : ¬ v = 0) : P ∧ Q := by
  rcases h with ⟨-, p, q⟩ | ⟨e, -, -⟩
  · exact ⟨p, q⟩
  · exact absurd e c
theorem wrx_0 {v : Int32} {P Q R S : Prop} (h : (v = 1 ∧ P ∧ Q) ∨ (v = 0 ∧ R ∧ S)) (c : v = 0) : R ∧ S := by
  rcases h with ⟨e, -, -⟩ | ⟨-, p, q⟩
  · rw [c] at e; exact absurd e (by decide +kernel)
  · exact ⟨p, q⟩
theorem dX12_row_0 : decode cX12_row 0 = .ok (.aload_n 0, 1) := by decide +kernel
theorem dX12_row_1 : decode cX12_row 1 = .ok (.getfield 138, 3) := by decide +kernel
theorem dX12_row_4 : decode cX12_row 4 = .ok (.istore_n 1, 1) := by decide +kernel
theorem dX12_row_5 : decode cX12_row 5 = .ok (.aload_n 0, 1) := by decide +kernel
theorem dX12_row_6 : decode cX12_row 6 = .ok (.iconst 0, 1) := by decide +kernel
theorem dX12_row_7 : decode cX12_row 7 = .ok (.putfield 138, 3) := by decide +kernel
theorem dX12_row_10 : decode cX12_row 10 = .ok (.iload_n 1, 1) := by decide +kernel
theorem dX12_row_11 : decode cX12_row 11 = .ok (.ifCond .ne 10, 3) := by decide +kernel
theorem dX12_row_14 : decode cX12_row 14 = .ok (.aload_n 0, 1) := by decide +kernel
theorem dX12_row_15 : decode cX12_row 15 = .ok (.bipush (-6), 2) := by decide +kernel
theorem dX12_row_17 : decode cX12_row 17 = .ok (.invokevirtual 100, 3) := by decide +kernel
theorem dX12_row_20 : decode cX12_row 20 = .ok (.ireturn, 1) := by decide +kernel
theorem dX12_row_21 : decode cX12_row 21 = .ok (.iconst 0, 1) := by decide +kernel
theorem dX12_row_22 : decode cX12_row 22 = .ok (.istore_n 2, 1) := by decide +kernel
theorem dX12_row_23 : decode cX12_row 23 = .ok (.aload_n 0, 1) := by decide +kernel
theorem dX12_row_24 : decode cX12_row 24 = .ok (.iload_n 1, 1) := by decide +kernel
theorem dX12_row_25 : decode cX12_row 25 = .ok (.iconst 4, 1) := by decide +kernel
theorem dX12_row_26 : decode cX12_row 26 = .ok (.irem, 1) := by decide +kernel
theorem dX12_row_27 : decode cX12_row 27 = .ok (.ifCond .ne 7, 3) := by decide +kernel
theorem dX12_row_30 : decode cX12_row 30 = .ok (.iconst 0, 1) := by decide +kernel
theorem dX12_row_31 : decode cX12_row 31 = .ok (.goto 4, 3) := by decide +kernel
theorem dX12_row_34 : decode cX12_row 34 = .ok (.iconst 1, 1) := by decide +kernel
theorem dX12_row_35 : decode cX12_row 35 = .ok (.putfield 141, 3) := by decide +kernel
theorem dX12_row_38 : decode cX12_row 38 = .ok (.iconst 0, 1) := by decide +kernel
theorem dX12_row_39 : decode cX12_row 39 = .ok (.istore_n 3, 1) := by decide +kernel
theorem dX12_row_40 : decode cX12_row 40 = .ok (.iload_n 3, 1) := by decide +kernel
theorem dX12_row_41 : decode cX12_row 41 = .ok (.iconst 4, 1) := by decide +kernel
theorem dX12_row_42 : decode cX12_row 42 = .ok (.iadd, 1) := by decide +kernel
theorem dX12_row_43 : decode cX12_row 43 = .ok (.iload_n 1, 1) := by decide +kernel
theorem dX12_row_44 : decode cX12_row 44 = .ok (.if_icmp .gt 138, 3) := by decide +kernel
theorem dX12_row_47 : decode cX12_row 47 = .ok (.aload_n 0, 1) := by decide +kernel
theorem dX12_row_48 : decode cX12_row 48 = .ok (.getfield 41, 3) := by decide +kernel
theorem dX12_row_51 : decode cX12_row 51 = .ok (.iload_n 3, 1) := by decide +kernel
theorem dX12_row_52 : decode cX12_row 52 = .ok (.iconst 1, 1) := by decide +kernel
theorem dX12_row_53 : decode cX12_row 53 = .ok (.iadd, 1) := by decide +kernel
theorem dX12_row_54 : decode cX12_row 54 = .ok (.baload, 1) := by decide +kernel
theorem dX12_row_55 : decode cX12_row 55 = .ok (.sipush 255, 3) := by decide +kernel
theorem dX12_row_58 : decode cX12_row 58 = .ok (.iand, 1) := by decide +kernel
theorem dX12_row_59 : decode cX12_row 59 = .ok (.istore 4, 2) := by decide +kernel
theorem dX12_row_61 : decode cX12_row 61 = .ok (.aload_n 0, 1) := by decide +kernel
theorem dX12_row_62 : decode cX12_row 62 = .ok (.getfield 24, 3) := by decide +kernel
theorem dX12_row_65 : decode cX12_row 65 = .ok (.bipush 102, 2) := by decide +kernel
theorem dX12_row_67 : decode cX12_row 67 = .ok (.iaload, 1) := by decide +kernel
theorem dX12_row_68 : decode cX12_row 68 = .ok (.bipush 10, 2) := by decide +kernel
theorem dX12_row_70 : decode cX12_row 70 = .ok (.if_icmp .ge 38, 3) := by decide +kernel
theorem dX12_row_73 : decode cX12_row 73 = .ok (.aload_n 0, 1) := by decide +kernel
theorem dX12_row_74 : decode cX12_row 74 = .ok (.aload_n 0, 1) := by decide +kernel
theorem dX12_row_75 : decode cX12_row 75 = .ok (.getfield 41, 3) := by decide +kernel
theorem dX12_row_78 : decode cX12_row 78 = .ok (.iload_n 3, 1) := by decide +kernel
theorem dX12_row_79 : decode cX12_row 79 = .ok (.baload, 1) := by decide +kernel
theorem dX12_row_80 : decode cX12_row 80 = .ok (.iload 4, 2) := by decide +kernel
theorem dX12_row_82 : decode cX12_row 82 = .ok (.aload_n 0, 1) := by decide +kernel
theorem dX12_row_83 : decode cX12_row 83 = .ok (.getfield 41, 3) := by decide +kernel
theorem dX12_row_86 : decode cX12_row 86 = .ok (.iload_n 3, 1) := by decide +kernel
theorem dX12_row_87 : decode cX12_row 87 = .ok (.iconst 2, 1) := by decide +kernel
theorem dX12_row_88 : decode cX12_row 88 = .ok (.iadd, 1) := by decide +kernel
theorem dX12_row_89 : decode cX12_row 89 = .ok (.baload, 1) := by decide +kernel
theorem dX12_row_90 : decode cX12_row 90 = .ok (.aload_n 0, 1) := by decide +kernel
theorem dX12_row_91 : decode cX12_row 91 = .ok (.getfield 41, 3) := by decide +kernel
theorem dX12_row_94 : decode cX12_row 94 = .ok (.iload_n 3, 1) := by decide +kernel
theorem dX12_row_95 : decode cX12_row 95 = .ok (.iconst 3, 1) := by decide +kernel
theorem dX12_row_96 : decode cX12_row 96 = .ok (.iadd, 1) := by decide +kernel
theorem dX12_row_97 : decode cX12_row 97 = .ok (.baload, 1) := by decide +kernel
theorem dX12_row_98 : decode cX12_row 98 = .ok (.invokevirtual 106, 3) := by decide +kernel
theorem dX12_row_101 : decode cX12_row 101 = .ok (.ifCond .eq 7, 3) := by decide +kernel
theorem dX12_row_104 : decode cX12_row 104 = .ok (.iconst 1, 1) := by decide +kernel
theorem dX12_row_105 : decode cX12_row 105 = .ok (.goto 4, 3) := by decide +kernel
theorem dX12_row_108 : decode cX12_row 108 = .ok (.iconst 0, 1) := by decide +kernel
theorem dX12_row_109 : decode cX12_row 109 = .ok (.istore 5, 2) := by decide +kernel
theorem dX12_row_111 : decode cX12_row 111 = .ok (.iload 5, 2) := by decide +kernel
theorem dX12_row_113 : decode cX12_row 113 = .ok (.ifCond .eq 31, 3) := by decide +kernel
theorem dX12_row_116 : decode cX12_row 116 = .ok (.aload_n 0, 1) := by decide +kernel
theorem dX12_row_117 : decode cX12_row 117 = .ok (.aload_n 0, 1) := by decide +kernel
theorem dX12_row_118 : decode cX12_row 118 = .ok (.getfield 41, 3) := by decide +kernel
theorem dX12_row_121 : decode cX12_row 121 = .ok (.iload_n 3, 1) := by decide +kernel
theorem dX12_row_122 : decode cX12_row 122 = .ok (.baload, 1) := by decide +kernel
theorem dX12_row_123 : decode cX12_row 123 = .ok (.iload 4, 2) := by decide +kernel
theorem dX12_row_125 : decode cX12_row 125 = .ok (.aload_n 0, 1) := by decide +kernel
theorem dX12_row_126 : decode cX12_row 126 = .ok (.getfield 41, 3) := by decide +kernel
theorem dX12_row_129 : decode cX12_row 129 = .ok (.iload_n 3, 1) := by decide +kernel
theorem dX12_row_130 : decode cX12_row 130 = .ok (.iconst 2, 1) := by decide +kernel
theorem dX12_row_131 : decode cX12_row 131 = .ok (.iadd, 1) := by decide +kernel
theorem dX12_row_132 : decode cX12_row 132 = .ok (.baload, 1) := by decide +kernel
theorem dX12_row_133 : decode cX12_row 133 = .ok (.aload_n 0, 1) := by decide +kernel
theorem dX12_row_134 : decode cX12_row 134 = .ok (.getfield 41, 3) := by decide +kernel
theorem dX12_row_137 : decode cX12_row 137 = .ok (.iload_n 3, 1) := by decide +kernel
theorem dX12_row_138 : decode cX12_row 138 = .ok (.iconst 3, 1) := by decide +kernel
theorem dX12_row_139 : decode cX12_row 139 = .ok (.iadd, 1) := by decide +kernel
theorem dX12_row_140 : decode cX12_row 140 = .ok (.baload, 1) := by decide +kernel
theorem dX12_row_141 : decode cX12_row 141 = .ok (.invokevirtual 110, 3) := by decide +kernel
theorem dX12_row_144 : decode cX12_row 144 = .ok (.iload_n 2, 1) := by decide +kernel
theorem dX12_row_145 : decode cX12_row 145 = .ok (.iload 5, 2) := by decide +kernel
theorem dX12_row_147 : decode cX12_row 147 = .ok (.ifCond .eq 7, 3) := by decide +kernel
theorem dX12_row_150 : decode cX12_row 150 = .ok (.iconst 1, 1) := by decide +kernel
theorem dX12_row_151 : decode cX12_row 151 = .ok (.goto 4, 3) := by decide +kernel
theorem dX12_row_154 : decode cX12_row 154 = .ok (.iconst 0, 1) := by decide +kernel
theorem dX12_row_155 : decode cX12_row 155 = .ok (.iadd, 1) := by decide +kernel
theorem dX12_row_156 : decode cX12_row 156 = .ok (.istore_n 2, 1) := by decide +kernel
theorem dX12_row_157 : decode cX12_row 157 = .ok (.aload_n 0, 1) := by decide +kernel
theorem dX12_row_158 : decode cX12_row 158 = .ok (.dup, 1) := by decide +kernel
theorem dX12_row_159 : decode cX12_row 159 = .ok (.getfield 141, 3) := by decide +kernel
theorem dX12_row_162 : decode cX12_row 162 = .ok (.iload 5, 2) := by decide +kernel
theorem dX12_row_164 : decode cX12_row 164 = .ok (.ifCond .eq 7, 3) := by decide +kernel
theorem dX12_row_167 : decode cX12_row 167 = .ok (.iconst 0, 1) := by decide +kernel
theorem dX12_row_168 : decode cX12_row 168 = .ok (.goto 4, 3) := by decide +kernel
theorem dX12_row_171 : decode cX12_row 171 = .ok (.iconst 1, 1) := by decide +kernel
theorem dX12_row_172 : decode cX12_row 172 = .ok (.iadd, 1) := by decide +kernel
theorem dX12_row_173 : decode cX12_row 173 = .ok (.putfield 141, 3) := by decide +kernel
theorem dX12_row_176 : decode cX12_row 176 = .ok (.iinc 3 4, 3) := by decide +kernel
theorem dX12_row_179 : decode cX12_row 179 = .ok (.goto (-139), 3) := by decide +kernel
theorem dX12_row_182 : decode cX12_row 182 = .ok (.aload_n 0, 1) := by decide +kernel
theorem dX12_row_183 : decode cX12_row 183 = .ok (.iload_n 2, 1) := by decide +kernel
theorem dX12_row_184 : decode cX12_row 184 = .ok (.invokevirtual 103, 3) := by decide +kernel
theorem dX12_row_187 : decode cX12_row 187 = .ok (.ireturn, 1) := by decide +kernel
theorem dX12_feed_0 : decode cX12_feed 0 = .ok (.aload_n 0, 1) := by decide +kernel
theorem dX12_feed_1 : decode cX12_feed 1 = .ok (.getfield 138, 3) := by decide +kernel
theorem dX12_feed_4 : decode cX12_feed 4 = .ok (.bipush 20, 2) := by decide +kernel
theorem dX12_feed_6 : decode cX12_feed 6 = .ok (.iadd, 1) := by decide +kernel
theorem dX12_feed_7 : decode cX12_feed 7 = .ok (.sipush 400, 3) := by decide +kernel
theorem dX12_feed_10 : decode cX12_feed 10 = .ok (.if_icmp .le 5, 3) := by decide +kernel
theorem dX12_feed_13 : decode cX12_feed 13 = .ok (.iconst (-1), 1) := by decide +kernel
theorem dX12_feed_14 : decode cX12_feed 14 = .ok (.ireturn, 1) := by decide +kernel
theorem dX12_feed_15 : decode cX12_feed 15 = .ok (.aload_n 0, 1) := by decide +kernel
theorem dX12_feed_16 : decode cX12_feed 16 = .ok (.getfield 44, 3) := by decide +kernel
theorem dX12_feed_19 : decode cX12_feed 19 = .ok (.iconst 0, 1) := by decide +kernel
theorem dX12_feed_20 : decode cX12_feed 20 = .ok (.iload_n 1, 1) := by decide +kernel
theorem dX12_feed_21 : decode cX12_feed 21 = .ok (.iastore, 1) := by decide +kernel
theorem dX12_feed_22 : decode cX12_feed 22 = .ok (.aload_n 0, 1) := by decide +kernel
theorem dX12_feed_23 : decode cX12_feed 23 = .ok (.getfield 44, 3) := by decide +kernel
theorem dX12_feed_26 : decode cX12_feed 26 = .ok (.iconst 1, 1) := by decide +kernel
theorem dX12_feed_27 : decode cX12_feed 27 = .ok (.iload_n 2, 1) := by decide +kernel
theorem dX12_feed_28 : decode cX12_feed 28 = .ok (.iastore, 1) := by decide +kernel
theorem dX12_feed_29 : decode cX12_feed 29 = .ok (.aload_n 0, 1) := by decide +kernel
theorem dX12_feed_30 : decode cX12_feed 30 = .ok (.getfield 44, 3) := by decide +kernel
theorem dX12_feed_33 : decode cX12_feed 33 = .ok (.iconst 2, 1) := by decide +kernel
theorem dX12_feed_34 : decode cX12_feed 34 = .ok (.iload_n 3, 1) := by decide +kernel
theorem dX12_feed_35 : decode cX12_feed 35 = .ok (.iastore, 1) := by decide +kernel
theorem dX12_feed_36 : decode cX12_feed 36 = .ok (.aload_n 0, 1) := by decide +kernel
theorem dX12_feed_37 : decode cX12_feed 37 = .ok (.getfield 44, 3) := by decide +kernel
theorem dX12_feed_40 : decode cX12_feed 40 = .ok (.iconst 3, 1) := by decide +kernel
theorem dX12_feed_41 : decode cX12_feed 41 = .ok (.iload 4, 2) := by decide +kernel
theorem dX12_feed_43 : decode cX12_feed 43 = .ok (.iastore, 1) := by decide +kernel
theorem dX12_feed_44 : decode cX12_feed 44 = .ok (.aload_n 0, 1) := by decide +kernel
theorem dX12_feed_45 : decode cX12_feed 45 = .ok (.getfield 44, 3) := by decide +kernel
theorem dX12_feed_48 : decode cX12_feed 48 = .ok (.iconst 4, 1) := by decide +kernel
theorem dX12_feed_49 : decode cX12_feed 49 = .ok (.iload 5, 2) := by decide +kernel
theorem dX12_feed_51 : decode cX12_feed 51 = .ok (.iastore, 1) := by decide +kernel
theorem dX12_feed_52 : decode cX12_feed 52 = .ok (.iconst 0, 1) := by decide +kernel
theorem dX12_feed_53 : decode cX12_feed 53 = .ok (.istore 6, 2) := by decide +kernel
theorem dX12_feed_55 : decode cX12_feed 55 = .ok (.iload 6, 2) := by decide +kernel
theorem dX12_feed_57 : decode cX12_feed 57 = .ok (.bipush 20, 2) := by decide +kernel
theorem dX12_feed_59 : decode cX12_feed 59 = .ok (.if_icmp .ge 42, 3) := by decide +kernel
theorem dX12_feed_62 : decode cX12_feed 62 = .ok (.aload_n 0, 1) := by decide +kernel
theorem dX12_feed_63 : decode cX12_feed 63 = .ok (.getfield 41, 3) := by decide +kernel
theorem dX12_feed_66 : decode cX12_feed 66 = .ok (.aload_n 0, 1) := by decide +kernel
theorem dX12_feed_67 : decode cX12_feed 67 = .ok (.getfield 138, 3) := by decide +kernel
theorem dX12_feed_70 : decode cX12_feed 70 = .ok (.iload 6, 2) := by decide +kernel
theorem dX12_feed_72 : decode cX12_feed 72 = .ok (.iadd, 1) := by decide +kernel
theorem dX12_feed_73 : decode cX12_feed 73 = .ok (.aload_n 0, 1) := by decide +kernel
theorem dX12_feed_74 : decode cX12_feed 74 = .ok (.getfield 44, 3) := by decide +kernel
theorem dX12_feed_77 : decode cX12_feed 77 = .ok (.iload 6, 2) := by decide +kernel
theorem dX12_feed_79 : decode cX12_feed 79 = .ok (.iconst 4, 1) := by decide +kernel
theorem dX12_feed_80 : decode cX12_feed 80 = .ok (.idiv, 1) := by decide +kernel
theorem dX12_feed_81 : decode cX12_feed 81 = .ok (.iaload, 1) := by decide +kernel
theorem dX12_feed_82 : decode cX12_feed 82 = .ok (.bipush 24, 2) := by decide +kernel
theorem dX12_feed_84 : decode cX12_feed 84 = .ok (.bipush 8, 2) := by decide +kernel
theorem dX12_feed_86 : decode cX12_feed 86 = .ok (.iload 6, 2) := by decide +kernel
theorem dX12_feed_88 : decode cX12_feed 88 = .ok (.iconst 4, 1) := by decide +kernel
theorem dX12_feed_89 : decode cX12_feed 89 = .ok (.irem, 1) := by decide +kernel
theorem dX12_feed_90 : decode cX12_feed 90 = .ok (.imul, 1) := by decide +kernel
theorem dX12_feed_91 : decode cX12_feed 91 = .ok (.isub, 1) := by decide +kernel
theorem dX12_feed_92 : decode cX12_feed 92 = .ok (.ishr, 1) := by decide +kernel
theorem dX12_feed_93 : decode cX12_feed 93 = .ok (.i2b, 1) := by decide +kernel
theorem dX12_feed_94 : decode cX12_feed 94 = .ok (.bastore, 1) := by decide +kernel
theorem dX12_feed_95 : decode cX12_feed 95 = .ok (.iinc 6 1, 3) := by decide +kernel
theorem dX12_feed_98 : decode cX12_feed 98 = .ok (.goto (-43), 3) := by decide +kernel
theorem dX12_feed_101 : decode cX12_feed 101 = .ok (.aload_n 0, 1) := by decide +kernel
theorem dX12_feed_102 : decode cX12_feed 102 = .ok (.dup, 1) := by decide +kernel
theorem dX12_feed_103 : decode cX12_feed 103 = .ok (.getfield 138, 3) := by decide +kernel
theorem dX12_feed_106 : decode cX12_feed 106 = .ok (.bipush 20, 2) := by decide +kernel
theorem dX12_feed_108 : decode cX12_feed 108 = .ok (.iadd, 1) := by decide +kernel
theorem dX12_feed_109 : decode cX12_feed 109 = .ok (.putfield 138, 3) := by decide +kernel
theorem dX12_feed_112 : decode cX12_feed 112 = .ok (.aload_n 0, 1) := by decide +kernel
theorem dX12_feed_113 : decode cX12_feed 113 = .ok (.getfield 138, 3) := by decide +kernel
theorem dX12_feed_116 : decode cX12_feed 116 = .ok (.ireturn, 1) := by decide +kernel
theorem dX12_end_0 : decode cX12_end 0 = .ok (.iload_n 1, 1) := by decide +kernel
theorem dX12_end_1 : decode cX12_end 1 = .ok (.iconst 0, 1) := by decide +kernel
theorem dX12_end_2 : decode cX12_end 2 = .ok (.aload_n 0, 1) := by decide +kernel
theorem dX12_end_3 : decode cX12_end 3 = .ok (.getfield 138, 3) := by decide +kernel
theorem dX12_end_6 : decode cX12_end 6 = .ok (.invokestatic 96, 3) := by decide +kernel
theorem dX12_end_9 : decode cX12_end 9 = .ok (.ifCond .ne 5, 3) := by decide +kernel
theorem dX12_end_12 : decode cX12_end 12 = .ok (.iconst (-1), 1) := by decide +kernel
theorem dX12_end_13 : decode cX12_end 13 = .ok (.ireturn, 1) := by decide +kernel
theorem dX12_end_14 : decode cX12_end 14 = .ok (.aload_n 0, 1) := by decide +kernel
theorem dX12_end_15 : decode cX12_end 15 = .ok (.iload_n 1, 1) := by decide +kernel
theorem dX12_end_16 : decode cX12_end 16 = .ok (.putfield 138, 3) := by decide +kernel
theorem dX12_end_19 : decode cX12_end 19 = .ok (.iload_n 1, 1) := by decide +kernel
theorem dX12_end_20 : decode cX12_end 20 = .ok (.ireturn, 1) := by decide +kernel
theorem kc_m6 : kb (-6) (-6) (-6) := ⟨by decide +kernel, by decide +kernel⟩
set_option maxHeartbeats 4000000 in
set_option maxRecDepth 100000 in
theorem m_feed  (l : Launch) {D : va_G} {K : Nat → ClassId} (o : Nat) (r : Nat → Nat) (f : Nat → Int32) (a : Nat → Nat → Int32) (g : Nat → Int64) (hI : mI f a) (x1 : Int32) (x2 : Int32) (x3 : Int32) (x4 : Int32) (x5 : Int32)    : kI l yX12_feed (Cond.code yX12_feed cX12_feed 7 (some .int) :: kG) (rmD 1 0 0) D (tysK K) [.ref o, .int x1, .int x2, .int x3, .int x4, .int x5] (mW K o r f a g) (fun v (u : mS) => kb (-2147483648) v 2147483647 ∧ mI u.1 u.2.1 ∧ mF (XR []) f a u.1 u.2.1 ∧ v = mFeedV (f 13) ∧ u.1 13 = mFeedT (f 13) ∧ u.2.1 11 = mFeedA (f 13) x1 x2 x3 x4 x5 (a 11) ∧ u.1 6 = f 6 ∧ u.1 14 = f 14) (fun u => mW K o r u.1 u.2.1 u.2.2) 0 0 := by
  refine kI.of (cc := cX12_feed) (maxL := 7) (ret := (some .int)) (by decide) rfl (Nat.le_of_ble_eq_true rfl) ?_
  intro p e s m below meth c A hx hb hr hml hown hts hlocks hnm hK hP hD hS hA ls hl
  have hE : mF (XR []) f a f a := mF_rf
  have hg : ∀ w ∈ kG, w.before _ s = true := fun w h => hts w (List.mem_cons_of_mem _ h)
  have hown : s.vm.findClass RX12 = some m.cls := hown
  have hl : lv_has ls 7 [(0, .ref o), (1, .int x1), (2, .int x2), (3, .int x3), (4, .int x4), (5, .int x5)] := hl
  obtain ⟨c13_f, ec13_f⟩ : ∃ z : Int32, z = f 13 := ⟨_, rfl⟩
  have b1 : kb 0 c13_f 400 := kb_eq ec13_f (fI_at hI.1 13 (by decide) (by decide))
  obtain ⟨c6_f, ec6_f⟩ : ∃ z : Int32, z = f 6 := ⟨_, rfl⟩
  obtain ⟨c14_f, ec14_f⟩ : ∃ z : Int32, z = f 14 := ⟨_, rfl⟩
  refine lv_aload_n hx hb dX12_feed_0 rfl (lv_at hl 0 rfl) ?_
  refine va_get (D := D) (ci := 12) (v := .int (f 13)) (C := RX12) (T := TX12) (N := 48) hx hb hg inC12 hown hK hP 0 rfl rfl 13 (by decide) (hg _ wt5_173) (fun _ h9 => h9) rfl dX12_feed_1 ?_
  refine k_top (z := c13_f) ec13_f.symm ?_
  refine lv_bipush (v := 20) hx hb dX12_feed_4 (by decide) ?_
  refine lv_iadd hx hb dX12_feed_6 ?_
  refine lv_topi (fun t2 et2 => ?_)
  have b3 : kb 20 t2 420 := kb_eq et2 (kb_add b1 kc_20 (by decide) (by decide))
  have qt2 : t2.toInt = c13_f.toInt + 20 := by rw [et2]; exact kt_addc b1 kc_20 (by decide) (by decide)
  refine lv_sipush (v := 400) hx hb dX12_feed_7 (by decide) ?_
  refine lv_icmp_le (tgt := 15) hx hb dX12_feed_10 (by decide) (fun c4 => ?_) (fun c4 => ?_)
  · have h5 := (kc_le c4)
    have b6 : kb 20 t2 400 := kr_le1 h5 b3 kc_400
    obtain ⟨T, hT⟩ : ∃ T : Nat, (T : Int) = c13_f.toInt := ⟨c13_f.toInt.toNat, by have w1 := (b1).1; omega⟩
    have b7 : kb 0 c13_f 380 := ⟨b1.1, by have h1 := b6.2; omega⟩
    refine lv_aload_n hx hb dX12_feed_15 rfl (lv_at hl 0 rfl) ?_
    refine va_get (D := D) (ci := 12) (v := .ref (r 12)) (C := RX12) (T := TX12) (N := 48) hx hb hg inC12 hown hK hP 0 rfl rfl 12 (by decide) (hg _ wt5_172) (fun _ h9 => h9) rfl dX12_feed_16 ?_
    refine lv_iconst (v := 0) hx hb dX12_feed_19 (by decide) ?_
    refine lv_iload_n hx hb dX12_feed_20 rfl (lv_at hl 1 rfl) ?_
    refine va_iast hx hb hK hP hD hS 8 0 rfl rfl (kb_in kc_0 (by decide) (by decide)) dX12_feed_21 (fun H locs hP hD hS => ?_)
    rw [cl_0] at hP hD
    have hP : va_P D vwCl (mW K o r f (va_up a 12 (upd (a 12) 0 x1)) g) H := hP
    have hD : va_D A (mW K o r f (va_up a 12 (upd (a 12) 0 x1)) g) := hD
    refine k_gen (P := fun z => va_P D vwCl (mW K o r f z g) H ∧ va_D A (mW K o r f z g) ∧ (mI f z) ∧ (mF (XR []) f a f z)) (va_up a 12 (upd (a 12) 0 x1)) ⟨hP, hD, (mI_s hI (aI_free hI.2.1 12 _ (fun j => ⟨by show (mBa 12 j).1 ≤ _; exact Int.le_refl _, by show _ ≤ (mBa 12 j).2; exact Int.le_refl _⟩)) (by decide) (by decide)), (mF_s hE (by decide) (by decide) (by decide))⟩ (fun a_8 ea_8 hq => ?_)
    obtain ⟨hP, hD, hI, hE⟩ := hq
    refine lv_aload_n hx hb dX12_feed_22 rfl (lv_at hl 0 rfl) ?_
    refine va_get (D := D) (ci := 12) (v := .ref (r 12)) (C := RX12) (T := TX12) (N := 48) hx hb hg inC12 hown hK hP 0 rfl rfl 12 (by decide) (hg _ wt5_172) (fun _ h9 => h9) rfl dX12_feed_23 ?_
    refine lv_iconst (v := 1) hx hb dX12_feed_26 (by decide) ?_
    refine lv_iload_n hx hb dX12_feed_27 rfl (lv_at hl 2 rfl) ?_
    refine va_iast hx hb hK hP hD hS 8 0 rfl rfl (kb_in kc_1 (by decide) (by decide)) dX12_feed_28 (fun H locs hP hD hS => ?_)
    rw [cl_1] at hP hD
    have hP : va_P D vwCl (mW K o r f (va_up a_8 12 (upd (a_8 12) 1 x2)) g) H := hP
    have hD : va_D A (mW K o r f (va_up a_8 12 (upd (a_8 12) 1 x2)) g) := hD
    refine k_gen (P := fun z => va_P D vwCl (mW K o r f z g) H ∧ va_D A (mW K o r f z g) ∧ (mI f z) ∧ (mF (XR []) f a f z)) (va_up a_8 12 (upd (a_8 12) 1 x2)) ⟨hP, hD, (mI_s hI (aI_free hI.2.1 12 _ (fun j => ⟨by show (mBa 12 j).1 ≤ _; exact Int.le_refl _, by show _ ≤ (mBa 12 j).2; exact Int.le_refl _⟩)) (by decide) (by decide)), (mF_s hE (by decide) (by decide) (by decide))⟩ (fun a_9 ea_9 hq => ?_)
    obtain ⟨hP, hD, hI, hE⟩ := hq
    refine lv_aload_n hx hb dX12_feed_29 rfl (lv_at hl 0 rfl) ?_
    refine va_get (D := D) (ci := 12) (v := .ref (r 12)) (C := RX12) (T := TX12) (N := 48) hx hb hg inC12 hown hK hP 0 rfl rfl 12 (by decide) (hg _ wt5_172) (fun _ h9 => h9) rfl dX12_feed_30 ?_
    refine lv_iconst (v := 2) hx hb dX12_feed_33 (by decide) ?_
    refine lv_iload_n hx hb dX12_feed_34 rfl (lv_at hl 3 rfl) ?_
    refine va_iast hx hb hK hP hD hS 8 0 rfl rfl (kb_in kc_2 (by decide) (by decide)) dX12_feed_35 (fun H locs hP hD hS => ?_)
    rw [cl_2] at hP hD
    have hP : va_P D vwCl (mW K o r f (va_up a_9 12 (upd (a_9 12) 2 x3)) g) H := hP
    have hD : va_D A (mW K o r f (va_up a_9 12 (upd (a_9 12) 2 x3)) g) := hD
    refine k_gen (P := fun z => va_P D vwCl (mW K o r f z g) H ∧ va_D A (mW K o r f z g) ∧ (mI f z) ∧ (mF (XR []) f a f z)) (va_up a_9 12 (upd (a_9 12) 2 x3)) ⟨hP, hD, (mI_s hI (aI_free hI.2.1 12 _ (fun j => ⟨by show (mBa 12 j).1 ≤ _; exact Int.le_refl _, by show _ ≤ (mBa 12 j).2; exact Int.le_refl _⟩)) (by decide) (by decide)), (mF_s hE (by decide) (by decide) (by decide))⟩ (fun a_10 ea_10 hq => ?_)
    obtain ⟨hP, hD, hI, hE⟩ := hq
    refine lv_aload_n hx hb dX12_feed_36 rfl (lv_at hl 0 rfl) ?_
    refine va_get (D := D) (ci := 12) (v := .ref (r 12)) (C := RX12) (T := TX12) (N := 48) hx hb hg inC12 hown hK hP 0 rfl rfl 12 (by decide) (hg _ wt5_172) (fun _ h9 => h9) rfl dX12_feed_37 ?_
    refine lv_iconst (v := 3) hx hb dX12_feed_40 (by decide) ?_
    refine lv_iload hx hb dX12_feed_41 (lv_at hl 4 rfl) ?_
    refine va_iast hx hb hK hP hD hS 8 0 rfl rfl (kb_in kc_3 (by decide) (by decide)) dX12_feed_43 (fun H locs hP hD hS => ?_)
    rw [cl_3] at hP hD
    have hP : va_P D vwCl (mW K o r f (va_up a_10 12 (upd (a_10 12) 3 x4)) g) H := hP
    have hD : va_D A (mW K o r f (va_up a_10 12 (upd (a_10 12) 3 x4)) g) := hD
    refine k_gen (P := fun z => va_P D vwCl (mW K o r f z g) H ∧ va_D A (mW K o r f z g) ∧ (mI f z) ∧ (mF (XR []) f a f z)) (va_up a_10 12 (upd (a_10 12) 3 x4)) ⟨hP, hD, (mI_s hI (aI_free hI.2.1 12 _ (fun j => ⟨by show (mBa 12 j).1 ≤ _; exact Int.le_refl _, by show _ ≤ (mBa 12 j).2; exact Int.le_refl _⟩)) (by decide) (by decide)), (mF_s hE (by decide) (by decide) (by decide))⟩ (fun a_11 ea_11 hq => ?_)
    obtain ⟨hP, hD, hI, hE⟩ := hq
    refine lv_aload_n hx hb dX12_feed_44 rfl (lv_at hl 0 rfl) ?_
    refine va_get (D := D) (ci := 12) (v := .ref (r 12)) (C := RX12) (T := TX12) (N := 48) hx hb hg inC12 hown hK hP 0 rfl rfl 12 (by decide) (hg _ wt5_172) (fun _ h9 => h9) rfl dX12_feed_45 ?_
    refine lv_iconst (v := 4) hx hb dX12_feed_48 (by decide) ?_
    refine lv_iload hx hb dX12_feed_49 (lv_at hl 5 rfl) ?_
    refine va_iast hx hb hK hP hD hS 8 0 rfl rfl (kb_in kc_4 (by decide) (by decide)) dX12_feed_51 (fun H locs hP hD hS => ?_)
    rw [cl_4] at hP hD
    have hP : va_P D vwCl (mW K o r f (va_up a_11 12 (upd (a_11 12) 4 x5)) g) H := hP
    have hD : va_D A (mW K o r f (va_up a_11 12 (upd (a_11 12) 4 x5)) g) := hD
    refine k_gen (P := fun z => va_P D vwCl (mW K o r f z g) H ∧ va_D A (mW K o r f z g) ∧ (mI f z) ∧ (mF (XR []) f a f z)) (va_up a_11 12 (upd (a_11 12) 4 x5)) ⟨hP, hD, (mI_s hI (aI_free hI.2.1 12 _ (fun j => ⟨by show (mBa 12 j).1 ≤ _; exact Int.le_refl _, by show _ ≤ (mBa 12 j).2; exact Int.le_refl _⟩)) (by decide) (by decide)), (mF_s hE (by decide) (by decide) (by decide))⟩ (fun a_12 ea_12 hq => ?_)
    obtain ⟨hP, hD, hI, hE⟩ := hq
    refine lv_iconst (v := 0) hx hb dX12_feed_52 (by decide) ?_
    refine lv_istore (lv' := [(6, .int 0), (0, .ref o), (1, .int x1), (2, .int x2), (3, .int x3), (4, .int x4), (5, .int x5)]) hx hb dX12_feed_53 hl (by decide) rfl (fun ls hl => ?_)
    have lp15 : ∀ (n16 : Nat) (k : Nat) (B14 : Nat → Nat → Int32) (H : Heap) (locs : List Loc) (ls : Array Slot) (y13 : Int32), ((20 : Int) < (k : Int) + (n16 : Int)) → (mI f B14) → (mF (XR []) f a f B14) → (kb 0 y13 20) → (B14 11 = mCp (tS x1 x2 x3 x4 x5) (a 11) 0 T k) → (B14 12 0 = x1 ∧ B14 12 1 = x2 ∧ B14 12 2 = x3 ∧ B14 12 3 = x4 ∧ B14 12 4 = x5) → (y13.toInt = (k : Int)) → (k ≤ 20) → va_P D vwCl (mW K o r f B14 g) H → va_D A (mW K o r f B14 g) → va_S A s.heap H locs → lv_has ls 7 [(6, .int y13), (0, .ref o), (1, .int x1), (2, .int x2), (3, .int x3), (4, .int x4), (5, .int x5)] → W p l e (rmD 1 0 0) s m ([.ref o, .int x1, .int x2, .int x3, .int x4, .int x5] : List Value).toArray below meth c H locs 0 0 (kQi D (tysK K) (fun v (u : mS) => kb (-2147483648) v 2147483647 ∧ mI u.1 u.2.1 ∧ mF (XR []) f a u.1 u.2.1 ∧ v = mFeedV (f 13) ∧ u.1 13 = mFeedT (f 13) ∧ u.2.1 11 = mFeedA (f 13) x1 x2 x3 x4 x5 (a 11) ∧ u.1 6 = f 6 ∧ u.1 14 = f 14) (fun u => mW K o r u.1 u.2.1 u.2.2) A below ([.ref o, .int x1, .int x2, .int x3, .int x4, .int x5] : List Value).toArray s 0 0) (F0 m 55 ls []) := by
      intro n16
      induction n16 with
      | zero =>
        intro k B14  H locs ls y13 hmlp15 hI hE b17 hvlp15_0 hvlp15_1 hvlp15_2 hvlp15_3 hP hD hS hl
        exact (by have w1 := hmlp15; have w2 := hvlp15_3; omega : False).elim
      | succ n16 ihlp15 =>
        intro k B14  H locs ls y13 hmlp15 hI hE b17 hvlp15_0 hvlp15_1 hvlp15_2 hvlp15_3 hP hD hS hl
        refine lv_iload hx hb dX12_feed_55 (lv_at hl 0 rfl) ?_
        refine lv_bipush (v := 20) hx hb dX12_feed_57 (by decide) ?_
        refine lv_icmp_ge (tgt := 101) hx hb dX12_feed_59 (by decide) (fun c18 => ?_) (fun c18 => ?_)
        · have h19 := (kc_le c18)
          have b20 : kb 20 y13 20 := kr_le2 h19 kc_20 b17
          have hkN : k = 20 := by have w1 := (b20).1; have w2 := hvlp15_2; have w3 := hvlp15_3; omega
          have hB := hvlp15_0
          rw [hkN] at hB
          refine lv_aload_n hx hb dX12_feed_101 rfl (lv_at hl 1 rfl) ?_
          refine lv_dup hx hb dX12_feed_102 rfl ?_
          refine va_get (D := D) (ci := 12) (v := .int (f 13)) (C := RX12) (T := TX12) (N := 48) hx hb hg inC12 hown hK hP 0 rfl rfl 13 (by decide) (hg _ wt5_173) (fun _ h9 => h9) rfl dX12_feed_103 ?_
          refine k_top (z := c13_f) ec13_f.symm ?_
          refine lv_bipush (v := 20) hx hb dX12_feed_106 (by decide) ?_
          refine lv_iadd hx hb dX12_feed_108 ?_
          refine k_top (z := t2) et2.symm ?_
          refine va_put (D := D) (ci := 12) (v := .int t2) (ty := .int) (C := RX12) (T := TX12) (N := 48) hx hb hg inC12 tyX12 tyX12_ok nmX12 hown hK hP hD hS 0 rfl rfl 13 (by decide) (hg _ wt5_173) (fun _ h9 => h9) rfl (by decide +kernel) rfl rfl (Nat.le_of_ble_eq_true rfl) dX12_feed_109 (fun H locs hP hD hS => ?_)
          have hP : va_P D vwCl (mW K o r (upd f 13 t2) B14 g) H := hP
          have hD : va_D A (mW K o r (upd f 13 t2) B14 g) := hD
          refine k_gen (P := fun z => va_P D vwCl (mW K o r z B14 g) H ∧ va_D A (mW K o r z B14 g) ∧ (mI z B14) ∧ (mF (XR []) f a z B14)) (upd f 13 t2) ⟨hP, hD, (mI_f hI (fI_st hI.1 13 b6 (by decide) (by decide))), (mF_f hE)⟩ (fun f_21 ef_21 hq => ?_)
          obtain ⟨hP, hD, hI, hE⟩ := hq
          refine lv_aload_n hx hb dX12_feed_112 rfl (lv_at hl 1 rfl) ?_
          refine va_get (D := D) (ci := 12) (v := .int (f_21 13)) (C := RX12) (T := TX12) (N := 48) hx hb hg inC12 hown hK hP 0 rfl rfl 13 (by decide) (hg _ wt5_173) (fun _ h9 => h9) rfl dX12_feed_113 ?_
          refine k_top (z := t2) (show f_21 13 = t2 from by rw [← ef_21]; rfl) ?_
          exact kI_ret (v := t2) hx hb hr hlocks rfl hK hS dX12_feed_116 (f_21, B14, g) hP hD ⟨(kb_w b6 (by decide) (by decide)), hI, hE, (by unfold mFeedV; rw [if_neg (by rw [← ec13_f]; have h1 := (b6).1; have h2 := (b6).2; omega), ← ec13_f]; exact et2), (by unfold mFeedT; rw [if_neg (by rw [← ec13_f]; have h1 := (b6).1; have h2 := (b6).2; omega), ← ec13_f, ← et2]; exact (show f_21 13 = t2 from by rw [← ef_21]; rfl)), (show B14 11 = mFeedA (f 13) x1 x2 x3 x4 x5 (a 11) from by unfold mFeedA; rw [if_neg (by rw [← ec13_f]; have h1 := (b6).1; have h2 := (b6).2; omega), ← ec13_f, show c13_f.toNatClampNeg = T from (by unfold Int32.toNatClampNeg; omega)]; exact hB), ((((show f_21 6 = f 6 from by rw [← ef_21]; rfl).trans ec6_f.symm)).trans ec6_f), ((((show f_21 14 = f 14 from by rw [← ef_21]; rfl).trans ec14_f.symm)).trans ec14_f)⟩
        · have h22 := (kc_nle c18)
          have b23 : kb 0 y13 19 := kr_lt1 h22 b17 kc_20 (by decide)
          refine lv_aload_n hx hb dX12_feed_62 rfl (lv_at hl 1 rfl) ?_
          refine va_get (D := D) (ci := 12) (v := .ref (r 11)) (C := RX12) (T := TX12) (N := 48) hx hb hg inC12 hown hK hP 0 rfl rfl 11 (by decide) (hg _ wt5_171) (fun _ h9 => h9) rfl dX12_feed_63 ?_
          refine lv_aload_n hx hb dX12_feed_66 rfl (lv_at hl 1 rfl) ?_
          refine va_get (D := D) (ci := 12) (v := .int (f 13)) (C := RX12) (T := TX12) (N := 48) hx hb hg inC12 hown hK hP 0 rfl rfl 13 (by decide) (hg _ wt5_173) (fun _ h9 => h9) rfl dX12_feed_67 ?_
          refine k_top (z := c13_f) ec13_f.symm ?_
          refine lv_iload hx hb dX12_feed_70 (lv_at hl 0 rfl) ?_
          refine lv_iadd hx hb dX12_feed_72 ?_
          refine lv_topi (fun t24 et24 => ?_)
          have b25 : kb 0 t24 399 := kb_eq et24 (kb_add b7 b23 (by decide) (by decide))
          have qt24 : t24.toInt = c13_f.toInt + y13.toInt := by rw [et24]; exact kt_add b7 b23 (by decide) (by decide)
          refine lv_aload_n hx hb dX12_feed_73 rfl (lv_at hl 1 rfl) ?_
          refine va_get (D := D) (ci := 12) (v := .ref (r 12)) (C := RX12) (T := TX12) (N := 48) hx hb hg inC12 hown hK hP 0 rfl rfl 12 (by decide) (hg _ wt5_172) (fun _ h9 => h9) rfl dX12_feed_74 ?_
          refine lv_iload hx hb dX12_feed_77 (lv_at hl 0 rfl) ?_
          refine lv_iconst (v := 4) hx hb dX12_feed_79 (by decide) ?_
          refine lv_idiv hx hb dX12_feed_80 (by decide +kernel) ?_
          refine lv_topi (fun t26 et26 => ?_)
          have b27 : kb 0 t26 4 := kb_eq et26 (kb_div (d := 4) b23 (by decide) rfl (by decide) (by decide))
          have qt26 : t26.toInt = y13.toInt / 4 := by rw [et26]; exact kt_div (d := 4) b23 (by decide) rfl (by decide) (by decide)
          refine va_iald hx hb hK hP 8 0 rfl rfl (kb_in b27 (by decide) (by decide)) dX12_feed_81 ?_
          refine lv_topi (fun t28 et28 => ?_)
          refine lv_bipush (v := 24) hx hb dX12_feed_82 (by decide) ?_
          refine lv_bipush (v := 8) hx hb dX12_feed_84 (by decide) ?_
          refine lv_iload hx hb dX12_feed_86 (lv_at hl 0 rfl) ?_
          refine lv_iconst (v := 4) hx hb dX12_feed_88 (by decide) ?_
          refine lv_irem hx hb dX12_feed_89 (by decide +kernel) ?_
          refine lv_topi (fun t29 et29 => ?_)
          have b30 : kb 0 t29 3 := kb_eq et29 (kb_rem (d := 4) b23 (by decide) rfl (by decide) (by decide))
          refine lv_imul hx hb dX12_feed_90 ?_
          refine lv_topi (fun t31 et31 => ?_)
          have b32 : kb 0 t31 24 := kb_eq et31 (kb_mul kc_8 b30 (by decide) (by decide) (by decide))
          have qt31 : t31.toInt = 8 * t29.toInt := by rw [et31]; exact kt_cmul kc_8 b30 (by decide) (by decide) (by decide)
          refine lv_isub hx hb dX12_feed_91 ?_
          refine lv_topi (fun t33 et33 => ?_)
          have b34 : kb 0 t33 24 := kb_eq et33 (kb_sub kc_24 b32 (by decide) (by decide))
          have qt33 : t33.toInt = 24 - t31.toInt := by rw [et33]; exact kt_csub kc_24 b32 (by decide) (by decide)
          refine lv_ishr hx hb dX12_feed_92 ?_
          refine lv_topi (fun t35 et35 => ?_)
          refine lv_i2b hx hb dX12_feed_93 rfl ?_
          refine lv_topi (fun t36 et36 => ?_)
          have b37 : kb (-128) t36 127 := kb_eq et36 (kb_i2b _)
          refine va_bast hx hb hK hP hD hS 7 1 rfl rfl (kb_in b25 (by decide) (by decide)) dX12_feed_94 (fun H locs hP hD hS => ?_)
          have hP : va_P D vwCl (mW K o r f (va_up B14 11 (upd (B14 11) t24.toNatClampNeg (vp_nar .byte t36))) g) H := hP
          have hD : va_D A (mW K o r f (va_up B14 11 (upd (B14 11) t24.toNatClampNeg (vp_nar .byte t36))) g) := hD
          refine k_gen (P := fun z => va_P D vwCl (mW K o r f z g) H ∧ va_D A (mW K o r f z g) ∧ (mI f z) ∧ (mF (XR []) f a f z)) (va_up B14 11 (upd (B14 11) t24.toNatClampNeg (vp_nar .byte t36))) ⟨hP, hD, (mI_s hI (aI_free hI.2.1 11 _ (fun j => ⟨by show (mBa 11 j).1 ≤ _; exact Int.le_refl _, by show _ ≤ (mBa 11 j).2; exact Int.le_refl _⟩)) (by decide) (by decide)), (mF_s hE (by decide) (by decide) (by decide))⟩ (fun a_38 ea_38 hq => ?_)
          obtain ⟨hP, hD, hI, hE⟩ := hq
          obtain ⟨t39, et39⟩ : ∃ z : Int32, z = y13 + Int32.ofInt 1 := ⟨_, rfl⟩
          have qt39 : t39.toInt = y13.toInt + 1 := by rw [et39]; exact km_inc b23 (by decide) (by decide)
          have b40 : kb 1 t39 20 := kb_inc (k := 1) qt39 b23
          refine lv_iinc (v := t39) (lv' := [(6, .int t39), (0, .ref o), (1, .int x1), (2, .int x2), (3, .int x3), (4, .int x4), (5, .int x5)]) hx hb dX12_feed_95 hl (k := 0) rfl et39.symm (by decide) rfl (fun ls hl => ?_)
          refine lv_goto (tgt := 55) hx hb dX12_feed_98 (by decide) ?_
          exact ihlp15 (k + 1) a_38 _ _ _ t39 (by omega) hI hE (kb_w b40 (by decide) (by decide)) (mCp_in hvlp15_0 ea_38 (by have w1 := hvlp15_2; omega) (by have w1 := hvlp15_2; have w4 := (b23).2; have w2 : t26.toNatClampNeg = k / 4 := (by unfold Int32.toNatClampNeg; omega); have w3 : t29.toInt = y13.toInt % 4 := (by rw [et29]; exact kt_rem (d := 4) b23 (by decide) rfl (by decide) (by decide)); rw [Nat.zero_add, tS_at (hvlp15_1.1) (hvlp15_1.2.1) (hvlp15_1.2.2.1) (hvlp15_1.2.2.2.1) (hvlp15_1.2.2.2.2) (by omega), ← w2, ← et28]; exact tB_at (s := t33) (by omega) (by omega) (by rw [et36, et35]))) (⟨(by rw [← ea_38]; show B14 12 0 = x1; exact hvlp15_1.1), (by rw [← ea_38]; show B14 12 1 = x2; exact hvlp15_1.2.1), (by rw [← ea_38]; show B14 12 2 = x3; exact hvlp15_1.2.2.1), (by rw [← ea_38]; show B14 12 3 = x4; exact hvlp15_1.2.2.2.1), (by rw [← ea_38]; show B14 12 4 = x5; exact hvlp15_1.2.2.2.2)⟩) (by omega) (by have w1 := (b23).2; omega) hP hD hS (lv_sub hl [0, 1, 2, 3, 4, 5, 6] rfl)
    exact lp15 (21) 0 a_12 _ _ _ 0 (by omega) hI hE (kb_w kc_0 (by decide) (by decide)) ((by rw [← ea_12, ← ea_11, ← ea_10, ← ea_9, ← ea_8]; exact mCp_0.symm)) (⟨((show a_12 12 0 = a_11 12 0 from by rw [← ea_12]; rfl).trans ((show a_11 12 0 = a_10 12 0 from by rw [← ea_11]; rfl).trans ((show a_10 12 0 = a_9 12 0 from by rw [← ea_10]; rfl).trans ((show a_9 12 0 = a_8 12 0 from by rw [← ea_9]; rfl).trans (show a_8 12 0 = x1 from by rw [← ea_8]; exact (pk_us (f := a 12) (k := 0) (x := x1))))))), ((show a_12 12 1 = a_11 12 1 from by rw [← ea_12]; rfl).trans ((show a_11 12 1 = a_10 12 1 from by rw [← ea_11]; rfl).trans ((show a_10 12 1 = a_9 12 1 from by rw [← ea_10]; rfl).trans (show a_9 12 1 = x2 from by rw [← ea_9]; exact (pk_us (f := a_8 12) (k := 1) (x := x2)))))), ((show a_12 12 2 = a_11 12 2 from by rw [← ea_12]; rfl).trans ((show a_11 12 2 = a_10 12 2 from by rw [← ea_11]; rfl).trans (show a_10 12 2 = x3 from by rw [← ea_10]; exact (pk_us (f := a_9 12) (k := 2) (x := x3))))), ((show a_12 12 3 = a_11 12 3 from by rw [← ea_12]; rfl).trans (show a_11 12 3 = x4 from by rw [← ea_11]; exact (pk_us (f := a_10 12) (k := 3) (x := x4)))), (show a_12 12 4 = x5 from by rw [← ea_12]; exact (pk_us (f := a_11 12) (k := 4) (x := x5)))⟩) (by decide +kernel) (Nat.zero_le _) hP hD hS (lv_sub hl [0, 1, 2, 3, 4, 5, 6] rfl)
  · have h41 := (kc_nle c4)
    have b42 : kb 401 t2 420 := kr_lt2 h41 kc_400 b3 (by decide)
    refine lv_iconst (v := (-1)) hx hb dX12_feed_13 (by decide) ?_
    exact kI_ret (v := (-1)) hx hb hr hlocks rfl hK hS dX12_feed_14 (f, a, g) hP hD ⟨(kb_w kc_m1 (by decide) (by decide)), hI, hE, (by unfold mFeedV; rw [if_pos (by rw [← ec13_f]; have h1 := (b42).1; have h2 := (b42).2; omega)]), (by unfold mFeedT; rw [if_pos (by rw [← ec13_f]; have h1 := (b42).1; have h2 := (b42).2; omega)]), (show a 11 = mFeedA (f 13) x1 x2 x3 x4 x5 (a 11) from by unfold mFeedA; rw [if_pos (by rw [← ec13_f]; have h1 := (b42).1; have h2 := (b42).2; omega)]), ((ec6_f.symm).trans ec6_f), ((ec14_f.symm).trans ec14_f)⟩
set_option maxHeartbeats 4000000 in
set_option maxRecDepth 100000 in
theorem m_end  (l : Launch) {D : va_G} {K : Nat → ClassId} (o : Nat) (r : Nat → Nat) (f : Nat → Int32) (a : Nat → Nat → Int32) (g : Nat → Int64) (hI : mI f a) (x : Int32)    : kI l yX12_end (Cond.code yX12_end cX12_end 2 (some .int) :: kG) (rmD 2 0 0) D (tysK K) [.ref o, .int x] (mW K o r f a g) (fun v (u : mS) => kb (-2147483648) v 2147483647 ∧ mI u.1 u.2.1 ∧ mF (XR []) f a u.1 u.2.1 ∧ v = (if mLies x 0 (f 13) = 0 then -1 else x) ∧ u.1 13 = (if mLies x 0 (f 13) = 0 then f 13 else x) ∧ u.2.1 11 = a 11 ∧ u.1 6 = f 6 ∧ u.1 14 = f 14) (fun u => mW K o r u.1 u.2.1 u.2.2) 0 0 := by
  refine kI.of (cc := cX12_end) (maxL := 2) (ret := (some .int)) (by decide) rfl (Nat.le_of_ble_eq_true rfl) ?_
  intro p e s m below meth c A hx hb hr hml hown hts hlocks hnm hK hP hD hS hA ls hl
  have hE : mF (XR []) f a f a := mF_rf
  have hg : ∀ w ∈ kG, w.before _ s = true := fun w h => hts w (List.mem_cons_of_mem _ h)
  have hown : s.vm.findClass RX12 = some m.cls := hown
  have hl : lv_has ls 2 [(0, .ref o), (1, .int x)] := hl
  obtain ⟨c13_f, ec13_f⟩ : ∃ z : Int32, z = f 13 := ⟨_, rfl⟩
  have b1 : kb 0 c13_f 400 := kb_eq ec13_f (fI_at hI.1 13 (by decide) (by decide))
  obtain ⟨c6_f, ec6_f⟩ : ∃ z : Int32, z = f 6 := ⟨_, rfl⟩
  obtain ⟨c14_f, ec14_f⟩ : ∃ z : Int32, z = f 14 := ⟨_, rfl⟩
  refine lv_iload_n hx hb dX12_end_0 rfl (lv_at hl 1 rfl) ?_
  refine lv_iconst (v := 0) hx hb dX12_end_1 (by decide) ?_
  refine lv_aload_n hx hb dX12_end_2 rfl (lv_at hl 0 rfl) ?_
  refine va_get (D := D) (ci := 12) (v := .int (f 13)) (C := RX12) (T := TX12) (N := 48) hx hb hg inC12 hown hK hP 0 rfl rfl 13 (by decide) (hg _ wt5_173) (fun _ h9 => h9) rfl dX12_end_3 ?_
  refine k_top (z := c13_f) ec13_f.symm ?_
  refine kN.callS (As := [.int x, .int 0, .int c13_f]) (rest := []) ⟨hx, hb, hml, hown, hg⟩ (m_lies l x 0 c13_f ) (va_cwS 3 hg (kgS wt6_69 wt6_70 wt1_14 wt6_71) rfl rfl rfl (by decide +kernel) ⟨by decide, by decide⟩) hP hS rfl hl.1 rfl (Nat.le_of_ble_eq_true rfl) dX12_end_6 ⟨Nat.le_refl _, Nat.le_refl _⟩ (fun v3 H locs hw2 hP hS => ?_)
  refine lv_if_ne (tgt := 14) hx hb dX12_end_9 (by decide) (fun c5 => ?_) (fun c5 => ?_)
  · have b6 : kb 1 v3 1 := kr_nel c5 hw2.1 kc_0 (by decide)
    have h7 := mLies_ne (hw2.2 ▸ c5)
    have b8 : kb 0 x 2147483647 := kr_le2 h7.1 kc_0 (kb_any x)
    have b9 : kb 0 x 400 := kr_le1 h7.2 b8 b1
    refine lv_aload_n hx hb dX12_end_14 rfl (lv_at hl 0 rfl) ?_
    refine lv_iload_n hx hb dX12_end_15 rfl (lv_at hl 1 rfl) ?_
    refine va_put (D := D) (ci := 12) (v := .int x) (ty := .int) (C := RX12) (T := TX12) (N := 48) hx hb hg inC12 tyX12 tyX12_ok nmX12 hown hK hP hD hS 0 rfl rfl 13 (by decide) (hg _ wt5_173) (fun _ h9 => h9) rfl (by decide +kernel) rfl rfl (Nat.le_of_ble_eq_true rfl) dX12_end_16 (fun H locs hP hD hS => ?_)
    have hP : va_P D vwCl (mW K o r (upd f 13 x) a g) H := hP
    have hD : va_D A (mW K o r (upd f 13 x) a g) := hD
    refine k_gen (P := fun z => va_P D vwCl (mW K o r z a g) H ∧ va_D A (mW K o r z a g) ∧ (mI z a) ∧ (mF (XR []) f a z a)) (upd f 13 x) ⟨hP, hD, (mI_f hI (fI_st hI.1 13 b9 (by decide) (by decide))), (mF_f hE)⟩ (fun f_10 ef_10 hq => ?_)
    obtain ⟨hP, hD, hI, hE⟩ := hq
    refine lv_iload_n hx hb dX12_end_19 rfl (lv_at hl 1 rfl) ?_
    exact kI_ret (v := x) hx hb hr hlocks rfl hK hS dX12_end_20 (f_10, a, g) hP hD ⟨(kb_w b9 (by decide) (by decide)), hI, hE, (by rw [← ec13_f, if_neg (fun q => c5 (hw2.2.trans q))]), (by rw [← ec13_f, if_neg (fun q => c5 (hw2.2.trans q))]; exact (show f_10 13 = x from by rw [← ef_10]; rfl)), rfl, ((((show f_10 6 = f 6 from by rw [← ef_10]; rfl).trans ec6_f.symm)).trans ec6_f), ((((show f_10 14 = f 14 from by rw [← ef_10]; rfl).trans ec14_f.symm)).trans ec14_f)⟩
  · have b11 : kb 0 v3 0 := kb_eq c5 kc_0
    refine lv_iconst (v := (-1)) hx hb dX12_end_12 (by decide) ?_
    exact kI_ret (v := (-1)) hx hb hr hlocks rfl hK hS dX12_end_13 (f, a, g) hP hD ⟨(kb_w kc_m1 (by decide) (by decide)), hI, hE, (by rw [← ec13_f, if_pos (hw2.2.symm.trans c5)]), (by rw [← ec13_f, if_pos (hw2.2.symm.trans c5)]; exact ec13_f.symm), rfl, ((ec6_f.symm).trans ec6_f), ((ec14_f.symm).trans ec14_f)⟩
set_option maxHeartbeats 4000000 in
set_option maxRecDepth 100000 in
theorem m_row  (l : Launch) {D : va_G} {K : Nat → ClassId} (o : Nat) (r : Nat → Nat) (f : Nat → Int32) (a : Nat → Nat → Int32) (g : Nat → Int64) (hI : mI f a)     : kI l yX12_row (Cond.code yX12_row cX12_row 6 (some .int) :: kG) (rmD 3 0 0) D (tysK K) [.ref o] (mW K o r f a g) (fun v (u : mS) => kb (-2147483648) v 2147483647 ∧ mI u.1 u.2.1 ∧ mF (XR [(0, 63), (102, 103)]) f a u.1 u.2.1 ∧ u.1 13 = 0 ∧ rowP (rOKm (a 11)) (f 13) v (a 2 102) (u.2.1 2 102) (f 6) (u.1 6) ∧ u.2.1 11 = a 11 ∧ u.1 14 = f 14) (fun u => mW K o r u.1 u.2.1 u.2.2) 0 0 := by
  refine kI.of (cc := cX12_row) (maxL := 6) (ret := (some .int)) (by decide) rfl (Nat.le_of_ble_eq_true rfl) ?_
  intro p e s m below meth c A hx hb hr hml hown hts hlocks hnm hK hP hD hS hA ls hl
  have hE : mF (XR [(0, 63), (102, 103)]) f a f a := mF_rf
  have hg : ∀ w ∈ kG, w.before _ s = true := fun w h => hts w (List.mem_cons_of_mem _ h)
  have hown : s.vm.findClass RX12 = some m.cls := hown
  have hl : lv_has ls 6 [(0, .ref o)] := hl
  obtain ⟨c13_f, ec13_f⟩ : ∃ z : Int32, z = f 13 := ⟨_, rfl⟩
  have b1 : kb 0 c13_f 400 := kb_eq ec13_f (fI_at hI.1 13 (by decide) (by decide))
  obtain ⟨c2_102, ec2_102⟩ : ∃ z : Int32, z = a 2 102 := ⟨_, rfl⟩
  have b2 : kb 0 c2_102 10 := kb_eq ec2_102 (aI_at hI.2.1 2 102 (by decide) (by decide))
  obtain ⟨c6_f, ec6_f⟩ : ∃ z : Int32, z = f 6 := ⟨_, rfl⟩
  obtain ⟨c14_f, ec14_f⟩ : ∃ z : Int32, z = f 14 := ⟨_, rfl⟩
  obtain ⟨T, hT⟩ : ∃ z : Nat, z = (f 13).toInt.toNat := ⟨_, rfl⟩
  obtain ⟨N0, hN0⟩ : ∃ z : Nat, z = (a 2 102).toInt.toNat := ⟨_, rfl⟩
  have hTi : (T : Int) = c13_f.toInt := by have w1 := (b1).1; rw [hT, ← ec13_f]; omega
  have hNi : (N0 : Int) = c2_102.toInt := by have w1 := (b2).1; rw [hN0, ← ec2_102]; omega
  refine lv_aload_n hx hb dX12_row_0 rfl (lv_at hl 0 rfl) ?_
  refine va_get (D := D) (ci := 12) (v := .int (f 13)) (C := RX12) (T := TX12) (N := 48) hx hb hg inC12 hown hK hP 0 rfl rfl 13 (by decide) (hg _ wt5_173) (fun _ h9 => h9) rfl dX12_row_1 ?_
  refine k_top (z := c13_f) ec13_f.symm ?_
  refine lv_istore_n (lv' := [(1, .int c13_f), (0, .ref o)]) hx hb dX12_row_4 rfl hl (by decide) rfl (fun ls hl => ?_)
  refine lv_aload_n hx hb dX12_row_5 rfl (lv_at hl 1 rfl) ?_
  refine lv_iconst (v := 0) hx hb dX12_row_6 (by decide) ?_
  refine va_put (D := D) (ci := 12) (v := .int 0) (ty := .int) (C := RX12) (T := TX12) (N := 48) hx hb hg inC12 tyX12 tyX12_ok nmX12 hown hK hP hD hS 0 rfl rfl 13 (by decide) (hg _ wt5_173) (fun _ h9 => h9) rfl (by decide +kernel) rfl rfl (Nat.le_of_ble_eq_true rfl) dX12_row_7 (fun H locs hP hD hS => ?_)
  have hP : va_P D vwCl (mW K o r (upd f 13 0) a g) H := hP
  have hD : va_D A (mW K o r (upd f 13 0) a g) := hD
  refine k_gen (P := fun z => va_P D vwCl (mW K o r z a g) H ∧ va_D A (mW K o r z a g) ∧ (mI z a) ∧ (mF (XR [(0, 63), (102, 103)]) f a z a)) (upd f 13 0) ⟨hP, hD, (mI_f hI (fI_st hI.1 13 kc_0 (by decide) (by decide))), (mF_f hE)⟩ (fun f_3 ef_3 hq => ?_)
  obtain ⟨hP, hD, hI, hE⟩ := hq
  have hk0 : f_3 13 = 0 := (show f_3 13 = 0 from by rw [← ef_3]; rfl)
  have hk1 : f_3 14 = f 14 := (((show f_3 14 = f 14 from by rw [← ef_3]; rfl).trans ec14_f.symm)).trans ec14_f
  refine lv_iload_n hx hb dX12_row_10 rfl (lv_at hl 0 rfl) ?_
  refine lv_if_ne (tgt := 21) hx hb dX12_row_11 (by decide) (fun c4 => ?_) (fun c4 => ?_)
  · have b5 : kb 1 c13_f 400 := kr_nel c4 b1 kc_0 (by decide)
    refine lv_iconst (v := 0) hx hb dX12_row_21 (by decide) ?_
    refine lv_istore_n (lv' := [(2, .int 0), (1, .int c13_f), (0, .ref o)]) hx hb dX12_row_22 rfl hl (by decide) rfl (fun ls hl => ?_)
    refine lv_aload_n hx hb dX12_row_23 rfl (lv_at hl 2 rfl) ?_
    refine lv_iload_n hx hb dX12_row_24 rfl (lv_at hl 1 rfl) ?_
    refine lv_iconst (v := 4) hx hb dX12_row_25 (by decide) ?_
    refine lv_irem hx hb dX12_row_26 (by decide +kernel) ?_
    refine lv_topi (fun t6 et6 => ?_)
    have b7 : kb 0 t6 3 := kb_eq et6 (kb_rem (d := 4) b5 (by decide) rfl (by decide) (by decide))
    have hrm : t6.toInt = (T : Int) % 4 := by rw [et6, hTi]; exact kt_rem (d := 4) b5 (by decide) rfl (by decide) (by decide)
    refine lv_if_ne (tgt := 34) hx hb dX12_row_27 (by decide) (fun c8 => ?_) (fun c8 => ?_)
    · have b9 : kb 1 t6 3 := kr_nel c8 b7 kc_0 (by decide)
      refine lv_iconst (v := 1) hx hb dX12_row_34 (by decide) ?_
      refine va_put (D := D) (ci := 12) (v := .int 1) (ty := .int) (C := RX12) (T := TX12) (N := 48) hx hb hg inC12 tyX12 tyX12_ok nmX12 hown hK hP hD hS 0 rfl rfl 6 (by decide) (hg _ wt5_166) (fun _ h9 => h9) rfl (by decide +kernel) rfl rfl (Nat.le_of_ble_eq_true rfl) dX12_row_35 (fun H locs hP hD hS => ?_)
      have hP : va_P D vwCl (mW K o r (upd f_3 6 1) a g) H := hP
      have hD : va_D A (mW K o r (upd f_3 6 1) a g) := hD
      refine k_gen (P := fun z => va_P D vwCl (mW K o r z a g) H ∧ va_D A (mW K o r z a g) ∧ (mI z a) ∧ (mF (XR [(0, 63), (102, 103)]) f a z a) ∧ (z 13 = 0) ∧ (z 14 = f 14)) (upd f_3 6 1) ⟨hP, hD, (mI_f hI (fI_st hI.1 6 (kb_any _) (by decide) (by decide))), (mF_f hE), ((pk_un (by decide)).trans hk0), ((pk_un (by decide)).trans hk1)⟩ (fun f_10 ef_10 hq => ?_)
      obtain ⟨hP, hD, hI, hE, hk0, hk1⟩ := hq
      refine lv_iconst (v := 0) hx hb dX12_row_38 (by decide) ?_
      refine lv_istore_n (lv' := [(3, .int 0), (2, .int 0), (1, .int c13_f), (0, .ref o)]) hx hb dX12_row_39 rfl hl (by decide) rfl (fun ls hl => ?_)
      have lp16 : ∀ (n17 : Nat) (k : Nat) (mm : Nat) (F13 : Nat → Int32) (B14 : Nat → Nat → Int32) (G15 : Nat → Int64) (H : Heap) (locs : List Loc) (ls : Array Slot) (y11 : Int32) (y12 : Int32), ((100 : Int) < (k : Int) + (n17 : Int)) → (mI F13 B14) → (mF (XR [(0, 63), (102, 103)]) f a F13 B14) → (F13 13 = 0) → (F13 14 = f 14) → (kb 0 y11 400) → (rSt (rOKm (a 11)) N0 k mm) → ((B14 2 102).toInt = (mm : Int)) → ((F13 6).toInt + (mm : Int) - (N0 : Int) = (((T + 3) / 4 : Nat) : Int) - ((T / 4 : Nat) : Int) + (k : Int)) → (y12.toInt = (mm : Int) - (N0 : Int)) → (y11.toInt = 4 * (k : Int)) → (k ≤ 100 ∧ N0 ≤ mm ∧ mm ≤ 10 ∧ 4 * k ≤ T) → (B14 11 = a 11) → va_P D vwCl (mW K o r F13 B14 G15) H → va_D A (mW K o r F13 B14 G15) → va_S A s.heap H locs → lv_has ls 6 [(3, .int y11), (2, .int y12), (1, .int c13_f), (0, .ref o)] → W p l e (rmD 3 0 0) s m ([.ref o] : List Value).toArray below meth c H locs 0 0 (kQi D (tysK K) (fun v (u : mS) => kb (-2147483648) v 2147483647 ∧ mI u.1 u.2.1 ∧ mF (XR [(0, 63), (102, 103)]) f a u.1 u.2.1 ∧ u.1 13 = 0 ∧ rowP (rOKm (a 11)) (f 13) v (a 2 102) (u.2.1 2 102) (f 6) (u.1 6) ∧ u.2.1 11 = a 11 ∧ u.1 14 = f 14) (fun u => mW K o r u.1 u.2.1 u.2.2) A below ([.ref o] : List Value).toArray s 0 0) (F0 m 40 ls []) := by
        intro n17
        induction n17 with
        | zero =>
          intro k mm F13 B14 G15  H locs ls y11 y12 hmlp16 hI hE hk0 hk1 b18 hvlp16_0 hvlp16_1 hvlp16_2 hvlp16_3 hvlp16_4 hvlp16_5 hvlp16_6 hP hD hS hl
          exact (by have w1 := hmlp16; have w2 := hvlp16_5; omega : False).elim
        | succ n17 ihlp16 =>
          intro k mm F13 B14 G15  H locs ls y11 y12 hmlp16 hI hE hk0 hk1 b18 hvlp16_0 hvlp16_1 hvlp16_2 hvlp16_3 hvlp16_4 hvlp16_5 hvlp16_6 hP hD hS hl
          refine lv_iload_n hx hb dX12_row_40 rfl (lv_at hl 0 rfl) ?_
          obtain ⟨c6, ec6⟩ : ∃ z : Int32, z = F13 6 := ⟨_, rfl⟩
          have hc6 : c6.toInt + (mm : Int) - (N0 : Int) = (((T + 3) / 4 : Nat) : Int) - ((T / 4 : Nat) : Int) + (k : Int) := by rw [ec6]; exact hvlp16_2
          have hT4 : T ≤ 400 := by have w1 := (b5).2; omega
          have b19 : kb (-20) c6 300 := ⟨by have w1 := hc6; have w2 := hvlp16_5; omega, by have w1 := hc6; have w2 := hvlp16_5; omega⟩
          obtain ⟨cB, ecB⟩ : ∃ z : Int32, z = B14 2 102 := ⟨_, rfl⟩
          have hcB : cB.toInt = (mm : Int) := by rw [ecB]; exact hvlp16_1
          have b20 : kb 0 cB 10 := ⟨by omega, by have w2 := hvlp16_5; omega⟩
          have b21 : kb 0 y12 10 := ⟨by have w1 := hvlp16_3; have w2 := hvlp16_5; omega, by have w1 := hvlp16_3; have w2 := hvlp16_5; omega⟩
          refine lv_iconst (v := 4) hx hb dX12_row_41 (by decide) ?_
          refine lv_iadd hx hb dX12_row_42 ?_
          refine lv_topi (fun t22 et22 => ?_)
          have b23 : kb 4 t22 404 := kb_eq et22 (kb_add b18 kc_4 (by decide) (by decide))
          have qt22 : t22.toInt = y11.toInt + 4 := by rw [et22]; exact kt_addc b18 kc_4 (by decide) (by decide)
          refine lv_iload_n hx hb dX12_row_43 rfl (lv_at hl 2 rfl) ?_
          refine lv_icmp_gt (tgt := 182) hx hb dX12_row_44 (by decide) (fun c24 => ?_) (fun c24 => ?_)
          · have h25 := (kc_lt c24)
            have hrex := kc_lt c24
            refine lv_aload_n hx hb dX12_row_182 rfl (lv_at hl 3 rfl) ?_
            refine lv_iload_n hx hb dX12_row_183 rfl (lv_at hl 1 rfl) ?_
            refine kI.callV (As := [.int y12]) (rest := []) ⟨hx, hb, hml, hown, hg⟩ (m_settled l o r F13 B14 G15 hI y12  ) (cwV 1 hg (kgV wt6_84 wt6_86 wp3_7 wt1_14 wt6_87) rfl rfl rfl (by decide +kernel) ⟨by decide, by decide⟩) hK hP hD hS hA mIs [] rfl (wr := []) rfl rfl rfl (fun i h => by cases h) 0 12 rfl rfl rfl hl.1 rfl (Nat.le_of_ble_eq_true rfl) dX12_row_184 ⟨Nat.le_refl _, Nat.le_refl _⟩ (fun v27 u28 H locs hw26 hP hD hS => ?_)
            obtain ⟨f29, a30, g31⟩ := u28
            have hP : va_P D vwCl (mW K o r f29 a30 g31) H := hP
            have hD : va_D A (mW K o r f29 a30 g31) := hD
            have hI : mI f29 a30 := hw26.2.1
            have hE : mF (XR [(0, 63), (102, 103)]) f a f29 a30 := mF_tr hE (mF_w (XR_w (by decide)) (mF_of hw26.2.2.1))
            have eE32 : mE (XR []) F13 B14 f29 a30 := hw26.2.2.1
            have hk0 : f29 13 = 0 := (eE32.1 13 rfl).trans hk0
            have hk1 : f29 14 = f 14 := (eE32.1 14 rfl).trans hk1
            refine k_top (z := y12) hw26.2.2.2 ?_
            exact kI_ret (v := y12) hx hb hr hlocks rfl hK hS dX12_row_187 (f29, a30, g31) hP hD ⟨(kb_w b21 (by decide) (by decide)), hI, hE, hk0, (Or.inr ⟨(fun q => c4 (ec13_f.trans q)), mm, (by rw [← hN0, ← hT, show T / 4 = k from (by have w1 := hrex; have w2 := hvlp16_4; have w3 := hvlp16_5; omega)]; exact hvlp16_0), (by rw [← ec2_102, ← hNi]; exact hvlp16_3), (by show (a30 2 102).toInt = (mm : Int); have e1 := congrArg Int32.toInt (((eE32.2.2.1 (102) rfl).trans ecB.symm)); omega), (by show (f29 6).toInt + (mm : Int) - (a 2 102).toInt = _; rw [← hT, ← ec2_102]; have e1 := congrArg Int32.toInt (((eE32.1 6 rfl).trans ec6.symm)); have w1 := hc6; have w2 := hrex; have w3 := hvlp16_4; have w4 := hvlp16_5; omega)⟩), (eE32.2.1.trans hvlp16_6), hk1⟩
          · have h33 := (kc_nlt c24)
            have b34 : kb 4 t22 400 := kr_le1 h33 b23 b5
            have b35 : kb 4 c13_f 400 := kr_le2 h33 b23 b5
            have b36 : kb 0 y11 396 := ⟨b18.1, by have h1 := b34.2; omega⟩
            have hrle := kc_nlt c24
            refine lv_aload_n hx hb dX12_row_47 rfl (lv_at hl 3 rfl) ?_
            refine va_get (D := D) (ci := 12) (v := .ref (r 11)) (C := RX12) (T := TX12) (N := 48) hx hb hg inC12 hown hK hP 0 rfl rfl 11 (by decide) (hg _ wt5_171) (fun _ h9 => h9) rfl dX12_row_48 ?_
            refine lv_iload_n hx hb dX12_row_51 rfl (lv_at hl 0 rfl) ?_
            refine lv_iconst (v := 1) hx hb dX12_row_52 (by decide) ?_
            refine lv_iadd hx hb dX12_row_53 ?_
            refine lv_topi (fun t37 et37 => ?_)
            have b38 : kb 1 t37 397 := kb_eq et37 (kb_add b36 kc_1 (by decide) (by decide))
            have qt37 : t37.toInt = y11.toInt + 1 := by rw [et37]; exact kt_addc b36 kc_1 (by decide) (by decide)
            refine va_bald hx hb hK hP 7 1 rfl rfl (kb_in b38 (by decide) (by decide)) dX12_row_54 ?_
            refine lv_topi (fun t39 et39 => ?_)
            refine lv_sipush (v := 255) hx hb dX12_row_55 (by decide) ?_
            refine lv_iand hx hb dX12_row_58 ?_
            refine lv_topi (fun t40 et40 => ?_)
            have b41 : kb 0 t40 255 := kb_eq et40 (kb_and 8 (by decide) (by decide))
            refine lv_istore (lv' := [(4, .int t40), (3, .int y11), (2, .int y12), (1, .int c13_f), (0, .ref o)]) hx hb dX12_row_59 hl (by decide) rfl (fun ls hl => ?_)
            refine lv_aload_n hx hb dX12_row_61 rfl (lv_at hl 4 rfl) ?_
            refine va_get (D := D) (ci := 12) (v := .ref (r 2)) (C := RX12) (T := TX12) (N := 48) hx hb hg inC12 hown hK hP 0 rfl rfl 2 (by decide) (hg _ wt5_162) (fun _ h9 => h9) rfl dX12_row_62 ?_
            refine lv_bipush (v := 102) hx hb dX12_row_65 (by decide) ?_
            refine va_iald hx hb hK hP 2 0 rfl rfl (kb_in kc_102 (by decide) (by decide)) dX12_row_67 ?_
            refine k_top (z := cB) (by rw [cl_102]; exact ecB.symm) ?_
            refine lv_bipush (v := 10) hx hb dX12_row_68 (by decide) ?_
            refine lv_icmp_ge (tgt := 108) hx hb dX12_row_70 (by decide) (fun c42 => ?_) (fun c42 => ?_)
            · have h43 := (kc_le c42)
              have b44 : kb 10 cB 10 := kr_le2 h43 kc_10 b20
              refine lv_iconst (v := 0) hx hb dX12_row_108 (by decide) ?_
              refine lv_istore (lv' := [(5, .int 0), (4, .int t40), (3, .int y11), (2, .int y12), (1, .int c13_f), (0, .ref o)]) hx hb dX12_row_109 hl (by decide) rfl (fun ls hl => ?_)
              refine lv_iload hx hb dX12_row_111 (lv_at hl 0 rfl) ?_
              refine lv_if_eq (tgt := 144) hx hb dX12_row_113 (by decide) (fun c45 => ?_) (fun c45 => ?_)
              · refine lv_iload_n hx hb dX12_row_144 rfl (lv_at hl 3 rfl) ?_
                refine lv_iload hx hb dX12_row_145 (lv_at hl 0 rfl) ?_
                refine lv_if_eq (tgt := 154) hx hb dX12_row_147 (by decide) (fun c46 => ?_) (fun c46 => ?_)
                · refine lv_iconst (v := 0) hx hb dX12_row_154 (by decide) ?_
                  refine lv_iadd hx hb dX12_row_155 ?_
                  refine lv_topi (fun t47 et47 => ?_)
                  have b48 : kb 0 t47 10 := kb_eq et47 (kb_add b21 kc_0 (by decide) (by decide))
                  have qt47 : t47.toInt = y12.toInt + 0 := by rw [et47]; exact kt_addc b21 kc_0 (by decide) (by decide)
                  refine lv_istore_n (lv' := [(2, .int t47), (5, .int 0), (4, .int t40), (3, .int y11), (1, .int c13_f), (0, .ref o)]) hx hb dX12_row_156 rfl hl (by decide) rfl (fun ls hl => ?_)
                  refine lv_aload_n hx hb dX12_row_157 rfl (lv_at hl 5 rfl) ?_
                  refine lv_dup hx hb dX12_row_158 rfl ?_
                  refine va_get (D := D) (ci := 12) (v := .int (F13 6)) (C := RX12) (T := TX12) (N := 48) hx hb hg inC12 hown hK hP 0 rfl rfl 6 (by decide) (hg _ wt5_166) (fun _ h9 => h9) rfl dX12_row_159 ?_
                  refine k_top (z := c6) ec6.symm ?_
                  refine lv_iload hx hb dX12_row_162 (lv_at hl 1 rfl) ?_
                  refine lv_if_eq (tgt := 171) hx hb dX12_row_164 (by decide) (fun c49 => ?_) (fun c49 => ?_)
                  · refine lv_iconst (v := 1) hx hb dX12_row_171 (by decide) ?_
                    refine lv_iadd hx hb dX12_row_172 ?_
                    refine lv_topi (fun t50 et50 => ?_)
                    have b51 : kb (-19) t50 301 := kb_eq et50 (kb_add b19 kc_1 (by decide) (by decide))
                    have qt50 : t50.toInt = c6.toInt + 1 := by rw [et50]; exact kt_addc b19 kc_1 (by decide) (by decide)
                    refine va_put (D := D) (ci := 12) (v := .int t50) (ty := .int) (C := RX12) (T := TX12) (N := 48) hx hb hg inC12 tyX12 tyX12_ok nmX12 hown hK hP hD hS 0 rfl rfl 6 (by decide) (hg _ wt5_166) (fun _ h9 => h9) rfl (by decide +kernel) rfl rfl (Nat.le_of_ble_eq_true rfl) dX12_row_173 (fun H locs hP hD hS => ?_)
                    have hP : va_P D vwCl (mW K o r (upd F13 6 t50) B14 G15) H := hP
                    have hD : va_D A (mW K o r (upd F13 6 t50) B14 G15) := hD
                    refine k_gen (P := fun z => va_P D vwCl (mW K o r z B14 G15) H ∧ va_D A (mW K o r z B14 G15) ∧ (mI z B14) ∧ (mF (XR [(0, 63), (102, 103)]) f a z B14) ∧ (z 13 = 0) ∧ (z 14 = f 14)) (upd F13 6 t50) ⟨hP, hD, (mI_f hI (fI_st hI.1 6 (kb_any _) (by decide) (by decide))), (mF_f hE), ((pk_un (by decide)).trans hk0), ((pk_un (by decide)).trans hk1)⟩ (fun f_52 ef_52 hq => ?_)
                    obtain ⟨hP, hD, hI, hE, hk0, hk1⟩ := hq
                    obtain ⟨t53, et53⟩ : ∃ z : Int32, z = y11 + Int32.ofInt 4 := ⟨_, rfl⟩
                    have b54 : kb 4 t53 400 := kb_eq et53 (kb_add b36 (kb_ofInt 4 (by decide)) (by decide) (by decide))
                    have qt53 : t53.toInt = y11.toInt + 4 := by rw [et53]; exact km_add b36 (by decide) (by decide) (by decide)
                    refine lv_iinc (v := t53) (lv' := [(3, .int t53), (2, .int t47), (5, .int 0), (4, .int t40), (1, .int c13_f), (0, .ref o)]) hx hb dX12_row_176 hl (k := 3) rfl et53.symm (by decide) rfl (fun ls hl => ?_)
                    refine lv_goto (tgt := 40) hx hb dX12_row_179 (by decide) ?_
                    exact ihlp16 (k + 1) mm f_52 B14 G15 _ _ _ t53 t47 (by omega) hI hE hk0 hk1 (kb_w b54 (by decide) (by decide)) (⟨mm, hvlp16_0, Or.inr ⟨fun q => by have q1 := q.1; have w1 := (b44).1; omega, rfl⟩⟩) (hvlp16_1) ((by have e1 := congrArg Int32.toInt ((show f_52 6 = t50 from by rw [← ef_52]; rfl)); have w1 := hc6; omega)) (by omega) (by omega) (⟨by have w1 := hvlp16_4; have w2 := (b36).2; omega, by have w1 := hvlp16_5; omega, by have w1 := hvlp16_5; omega, by have w1 := hvlp16_4; have w3 := hrle; omega⟩) (hvlp16_6) hP hD hS (lv_sub hl [0, 1, 4, 5] rfl)
                  · exact kb_nsame c49 kc_0 kc_0
                · exact kb_nsame c46 kc_0 kc_0
              · exact kb_nsame c45 kc_0 kc_0
            · have h55 := (kc_nle c42)
              have b56 : kb 0 cB 9 := kr_lt1 h55 b20 kc_10 (by decide)
              refine lv_aload_n hx hb dX12_row_73 rfl (lv_at hl 4 rfl) ?_
              refine lv_aload_n hx hb dX12_row_74 rfl (lv_at hl 4 rfl) ?_
              refine va_get (D := D) (ci := 12) (v := .ref (r 11)) (C := RX12) (T := TX12) (N := 48) hx hb hg inC12 hown hK hP 0 rfl rfl 11 (by decide) (hg _ wt5_171) (fun _ h9 => h9) rfl dX12_row_75 ?_
              refine lv_iload_n hx hb dX12_row_78 rfl (lv_at hl 1 rfl) ?_
              refine va_bald hx hb hK hP 7 1 rfl rfl (kb_in b36 (by decide) (by decide)) dX12_row_79 ?_
              refine lv_topi (fun t57 et57 => ?_)
              refine lv_iload hx hb dX12_row_80 (lv_at hl 0 rfl) ?_
              refine lv_aload_n hx hb dX12_row_82 rfl (lv_at hl 4 rfl) ?_
              refine va_get (D := D) (ci := 12) (v := .ref (r 11)) (C := RX12) (T := TX12) (N := 48) hx hb hg inC12 hown hK hP 0 rfl rfl 11 (by decide) (hg _ wt5_171) (fun _ h9 => h9) rfl dX12_row_83 ?_
              refine lv_iload_n hx hb dX12_row_86 rfl (lv_at hl 1 rfl) ?_
              refine lv_iconst (v := 2) hx hb dX12_row_87 (by decide) ?_
              refine lv_iadd hx hb dX12_row_88 ?_
              refine lv_topi (fun t58 et58 => ?_)
              have b59 : kb 2 t58 398 := kb_eq et58 (kb_add b36 kc_2 (by decide) (by decide))
              have qt58 : t58.toInt = y11.toInt + 2 := by rw [et58]; exact kt_addc b36 kc_2 (by decide) (by decide)
              refine va_bald hx hb hK hP 7 1 rfl rfl (kb_in b59 (by decide) (by decide)) dX12_row_89 ?_
              refine lv_topi (fun t60 et60 => ?_)
              refine lv_aload_n hx hb dX12_row_90 rfl (lv_at hl 4 rfl) ?_
              refine va_get (D := D) (ci := 12) (v := .ref (r 11)) (C := RX12) (T := TX12) (N := 48) hx hb hg inC12 hown hK hP 0 rfl rfl 11 (by decide) (hg _ wt5_171) (fun _ h9 => h9) rfl dX12_row_91 ?_
              refine lv_iload_n hx hb dX12_row_94 rfl (lv_at hl 1 rfl) ?_
              refine lv_iconst (v := 3) hx hb dX12_row_95 (by decide) ?_
              refine lv_iadd hx hb dX12_row_96 ?_
              refine lv_topi (fun t61 et61 => ?_)
              have b62 : kb 3 t61 399 := kb_eq et61 (kb_add b36 kc_3 (by decide) (by decide))
              have qt61 : t61.toInt = y11.toInt + 3 := by rw [et61]; exact kt_addc b36 kc_3 (by decide) (by decide)
              refine va_bald hx hb hK hP 7 1 rfl rfl (kb_in b62 (by decide) (by decide)) dX12_row_97 ?_
              refine lv_topi (fun t63 et63 => ?_)
              refine kI.callV (As := [.int t57, .int t40, .int t60, .int t63]) (rest := []) ⟨hx, hb, hml, hown, hg⟩ (m_canPart l o r F13 B14 G15 hI t57 t40 t60 t63  ) (cwV 4 hg (kgV wt6_92 wt6_94 wp3_8 wt1_14 wt6_95) rfl rfl rfl (by decide +kernel) ⟨by decide, by decide⟩) hK hP hD hS hA mIs [] rfl (wr := []) rfl rfl rfl (fun i h => by cases h) 0 12 rfl rfl rfl hl.1 rfl (Nat.le_of_ble_eq_true rfl) dX12_row_98 ⟨Nat.le_refl _, Nat.le_refl _⟩ (fun v65 u66 H locs hw64 hP hD hS => ?_)
              have hP : va_P D vwCl (mW K o r F13 B14 G15) H := hP
              have hD : va_D A (mW K o r F13 B14 G15) := hD
              refine lv_if_eq (tgt := 108) hx hb dX12_row_101 (by decide) (fun c67 => ?_) (fun c67 => ?_)
              · have b68 : kb 0 v65 0 := kb_eq c67 kc_0
                refine lv_iconst (v := 0) hx hb dX12_row_108 (by decide) ?_
                refine lv_istore (lv' := [(5, .int 0), (4, .int t40), (3, .int y11), (2, .int y12), (1, .int c13_f), (0, .ref o)]) hx hb dX12_row_109 hl (by decide) rfl (fun ls hl => ?_)
                refine lv_iload hx hb dX12_row_111 (lv_at hl 0 rfl) ?_
                refine lv_if_eq (tgt := 144) hx hb dX12_row_113 (by decide) (fun c69 => ?_) (fun c69 => ?_)
                · refine lv_iload_n hx hb dX12_row_144 rfl (lv_at hl 3 rfl) ?_
                  refine lv_iload hx hb dX12_row_145 (lv_at hl 0 rfl) ?_
                  refine lv_if_eq (tgt := 154) hx hb dX12_row_147 (by decide) (fun c70 => ?_) (fun c70 => ?_)
                  · refine lv_iconst (v := 0) hx hb dX12_row_154 (by decide) ?_
                    refine lv_iadd hx hb dX12_row_155 ?_
                    refine lv_topi (fun t71 et71 => ?_)
                    have b72 : kb 0 t71 10 := kb_eq et71 (kb_add b21 kc_0 (by decide) (by decide))
                    have qt71 : t71.toInt = y12.toInt + 0 := by rw [et71]; exact kt_addc b21 kc_0 (by decide) (by decide)
                    refine lv_istore_n (lv' := [(2, .int t71), (5, .int 0), (4, .int t40), (3, .int y11), (1, .int c13_f), (0, .ref o)]) hx hb dX12_row_156 rfl hl (by decide) rfl (fun ls hl => ?_)
                    refine lv_aload_n hx hb dX12_row_157 rfl (lv_at hl 5 rfl) ?_
                    refine lv_dup hx hb dX12_row_158 rfl ?_
                    refine va_get (D := D) (ci := 12) (v := .int (F13 6)) (C := RX12) (T := TX12) (N := 48) hx hb hg inC12 hown hK hP 0 rfl rfl 6 (by decide) (hg _ wt5_166) (fun _ h9 => h9) rfl dX12_row_159 ?_
                    refine k_top (z := c6) ec6.symm ?_
                    refine lv_iload hx hb dX12_row_162 (lv_at hl 1 rfl) ?_
                    refine lv_if_eq (tgt := 171) hx hb dX12_row_164 (by decide) (fun c73 => ?_) (fun c73 => ?_)
                    · refine lv_iconst (v := 1) hx hb dX12_row_171 (by decide) ?_
                      refine lv_iadd hx hb dX12_row_172 ?_
                      refine lv_topi (fun t74 et74 => ?_)
                      have b75 : kb (-19) t74 301 := kb_eq et74 (kb_add b19 kc_1 (by decide) (by decide))
                      have qt74 : t74.toInt = c6.toInt + 1 := by rw [et74]; exact kt_addc b19 kc_1 (by decide) (by decide)
                      refine va_put (D := D) (ci := 12) (v := .int t74) (ty := .int) (C := RX12) (T := TX12) (N := 48) hx hb hg inC12 tyX12 tyX12_ok nmX12 hown hK hP hD hS 0 rfl rfl 6 (by decide) (hg _ wt5_166) (fun _ h9 => h9) rfl (by decide +kernel) rfl rfl (Nat.le_of_ble_eq_true rfl) dX12_row_173 (fun H locs hP hD hS => ?_)
                      have hP : va_P D vwCl (mW K o r (upd F13 6 t74) B14 G15) H := hP
                      have hD : va_D A (mW K o r (upd F13 6 t74) B14 G15) := hD
                      refine k_gen (P := fun z => va_P D vwCl (mW K o r z B14 G15) H ∧ va_D A (mW K o r z B14 G15) ∧ (mI z B14) ∧ (mF (XR [(0, 63), (102, 103)]) f a z B14) ∧ (z 13 = 0) ∧ (z 14 = f 14)) (upd F13 6 t74) ⟨hP, hD, (mI_f hI (fI_st hI.1 6 (kb_any _) (by decide) (by decide))), (mF_f hE), ((pk_un (by decide)).trans hk0), ((pk_un (by decide)).trans hk1)⟩ (fun f_76 ef_76 hq => ?_)
                      obtain ⟨hP, hD, hI, hE, hk0, hk1⟩ := hq
                      obtain ⟨t77, et77⟩ : ∃ z : Int32, z = y11 + Int32.ofInt 4 := ⟨_, rfl⟩
                      have b78 : kb 4 t77 400 := kb_eq et77 (kb_add b36 (kb_ofInt 4 (by decide)) (by decide) (by decide))
                      have qt77 : t77.toInt = y11.toInt + 4 := by rw [et77]; exact km_add b36 (by decide) (by decide) (by decide)
                      refine lv_iinc (v := t77) (lv' := [(3, .int t77), (2, .int t71), (5, .int 0), (4, .int t40), (1, .int c13_f), (0, .ref o)]) hx hb dX12_row_176 hl (k := 3) rfl et77.symm (by decide) rfl (fun ls hl => ?_)
                      refine lv_goto (tgt := 40) hx hb dX12_row_179 (by decide) ?_
                      exact ihlp16 (k + 1) mm f_76 B14 G15 _ _ _ t77 t71 (by omega) hI hE hk0 hk1 (kb_w b78 (by decide) (by decide)) (⟨mm, hvlp16_0, Or.inr ⟨fun q => (hw64.2.2.2 c67) (by have w1 := hvlp16_4; have w5 := (b36).1; have j0 : y11.toNatClampNeg = 4 * k := (by unfold Int32.toNatClampNeg; omega); have j1 : t37.toNatClampNeg = 4 * k + 1 := (by unfold Int32.toNatClampNeg; omega); have j2 : t58.toNatClampNeg = 4 * k + 2 := (by unfold Int32.toNatClampNeg; omega); have j3 : t61.toNatClampNeg = 4 * k + 3 := (by unfold Int32.toNatClampNeg; omega); have jn : cB = nI mm := Int32.toInt_inj.mp (by rw [nI_toInt (by have w2 := hvlp16_5; omega)]; exact hcB); rw [et57, et40, et39, et60, et63, hvlp16_6, j0, j1, j2, j3, ← ecB, jn]; exact q.2), rfl⟩⟩) (hvlp16_1) ((by have e1 := congrArg Int32.toInt ((show f_76 6 = t74 from by rw [← ef_76]; rfl)); have w1 := hc6; omega)) (by omega) (by omega) (⟨by have w1 := hvlp16_4; have w2 := (b36).2; omega, by have w1 := hvlp16_5; omega, by have w1 := hvlp16_5; omega, by have w1 := hvlp16_4; have w3 := hrle; omega⟩) (hvlp16_6) hP hD hS (lv_sub hl [0, 1, 4, 5] rfl)
                    · exact kb_nsame c73 kc_0 kc_0
                  · exact kb_nsame c70 kc_0 kc_0
                · exact kb_nsame c69 kc_0 kc_0
              · have b79 : kb 1 v65 1 := kr_nel c67 hw64.1 kc_0 (by decide)
                have h80 := hw64.2.1 c67
                have b81 : kb 1 t57 99 := kb_of2 h80
                refine lv_iconst (v := 1) hx hb dX12_row_104 (by decide) ?_
                refine lv_goto (tgt := 109) hx hb dX12_row_105 (by decide) ?_
                refine lv_istore (lv' := [(5, .int 1), (4, .int t40), (3, .int y11), (2, .int y12), (1, .int c13_f), (0, .ref o)]) hx hb dX12_row_109 hl (by decide) rfl (fun ls hl => ?_)
                refine lv_iload hx hb dX12_row_111 (lv_at hl 0 rfl) ?_
                refine lv_if_eq (tgt := 144) hx hb dX12_row_113 (by decide) (fun c82 => ?_) (fun c82 => ?_)
                · exact kb_dj c82 kc_1 kc_0 (by decide)
                · refine lv_aload_n hx hb dX12_row_116 rfl (lv_at hl 5 rfl) ?_
                  refine lv_aload_n hx hb dX12_row_117 rfl (lv_at hl 5 rfl) ?_
                  refine va_get (D := D) (ci := 12) (v := .ref (r 11)) (C := RX12) (T := TX12) (N := 48) hx hb hg inC12 hown hK hP 0 rfl rfl 11 (by decide) (hg _ wt5_171) (fun _ h9 => h9) rfl dX12_row_118 ?_
                  refine lv_iload_n hx hb dX12_row_121 rfl (lv_at hl 2 rfl) ?_
                  refine va_bald hx hb hK hP 7 1 rfl rfl (kb_in b36 (by decide) (by decide)) dX12_row_122 ?_
                  refine k_top (z := t57) et57.symm ?_
                  refine lv_iload hx hb dX12_row_123 (lv_at hl 1 rfl) ?_
                  refine lv_aload_n hx hb dX12_row_125 rfl (lv_at hl 5 rfl) ?_
                  refine va_get (D := D) (ci := 12) (v := .ref (r 11)) (C := RX12) (T := TX12) (N := 48) hx hb hg inC12 hown hK hP 0 rfl rfl 11 (by decide) (hg _ wt5_171) (fun _ h9 => h9) rfl dX12_row_126 ?_
                  refine lv_iload_n hx hb dX12_row_129 rfl (lv_at hl 2 rfl) ?_
                  refine lv_iconst (v := 2) hx hb dX12_row_130 (by decide) ?_
                  refine lv_iadd hx hb dX12_row_131 ?_
                  refine k_top (z := t58) et58.symm ?_
                  refine va_bald hx hb hK hP 7 1 rfl rfl (kb_in b59 (by decide) (by decide)) dX12_row_132 ?_
                  refine k_top (z := t60) et60.symm ?_
                  refine lv_aload_n hx hb dX12_row_133 rfl (lv_at hl 5 rfl) ?_
                  refine va_get (D := D) (ci := 12) (v := .ref (r 11)) (C := RX12) (T := TX12) (N := 48) hx hb hg inC12 hown hK hP 0 rfl rfl 11 (by decide) (hg _ wt5_171) (fun _ h9 => h9) rfl dX12_row_134 ?_
                  refine lv_iload_n hx hb dX12_row_137 rfl (lv_at hl 2 rfl) ?_
                  refine lv_iconst (v := 3) hx hb dX12_row_138 (by decide) ?_
                  refine lv_iadd hx hb dX12_row_139 ?_
                  refine k_top (z := t61) et61.symm ?_
                  refine va_bald hx hb hK hP 7 1 rfl rfl (kb_in b62 (by decide) (by decide)) dX12_row_140 ?_
                  refine k_top (z := t63) et63.symm ?_
                  refine kV.callV (As := [.int t57, .int t40, .int t60, .int t63]) (rest := []) ⟨hx, hb, hml, hown, hg⟩ (m_addsPart l o r F13 B14 G15 hI t57 t40 t60 t63 b81 (kb_eq ecB.symm b56)) (cwV 4 hg (kgV wt6_96 wt6_98 wp3_9 wt1_14 wt6_99) rfl rfl rfl (by decide +kernel) ⟨by decide, by decide⟩) hK hP hD hS hA mIs [] rfl (wr := []) rfl rfl rfl (fun i h => by cases h) 0 12 rfl rfl rfl hl.1 rfl (Nat.le_of_ble_eq_true rfl) dX12_row_141 ⟨Nat.le_refl _, Nat.le_refl _⟩ (fun u85 H locs hw83 hP hD hS => ?_)
                  obtain ⟨f86, a87, g88⟩ := u85
                  have hP : va_P D vwCl (mW K o r f86 a87 g88) H := hP
                  have hD : va_D A (mW K o r f86 a87 g88) := hD
                  have hI : mI f86 a87 := hw83.1
                  have hE : mF (XR [(0, 63), (102, 103)]) f a f86 a87 := mF_tr hE (mF_of hw83.2.1)
                  have eE89 : mE (XR [(0, 63), (102, 103)]) F13 B14 f86 a87 := hw83.2.1
                  have hk0 : f86 13 = 0 := (eE89.1 13 rfl).trans hk0
                  have hk1 : f86 14 = f 14 := (eE89.1 14 rfl).trans hk1
                  refine lv_iload_n hx hb dX12_row_144 rfl (lv_at hl 3 rfl) ?_
                  refine lv_iload hx hb dX12_row_145 (lv_at hl 0 rfl) ?_
                  refine lv_if_eq (tgt := 154) hx hb dX12_row_147 (by decide) (fun c90 => ?_) (fun c90 => ?_)
                  · exact kb_dj c90 kc_1 kc_0 (by decide)
                  · refine lv_iconst (v := 1) hx hb dX12_row_150 (by decide) ?_
                    refine lv_goto (tgt := 155) hx hb dX12_row_151 (by decide) ?_
                    refine lv_iadd hx hb dX12_row_155 ?_
                    refine lv_topi (fun t91 et91 => ?_)
                    have b92 : kb 1 t91 11 := kb_eq et91 (kb_add b21 kc_1 (by decide) (by decide))
                    have qt91 : t91.toInt = y12.toInt + 1 := by rw [et91]; exact kt_addc b21 kc_1 (by decide) (by decide)
                    refine lv_istore_n (lv' := [(2, .int t91), (5, .int 1), (4, .int t40), (3, .int y11), (1, .int c13_f), (0, .ref o)]) hx hb dX12_row_156 rfl hl (by decide) rfl (fun ls hl => ?_)
                    refine lv_aload_n hx hb dX12_row_157 rfl (lv_at hl 5 rfl) ?_
                    refine lv_dup hx hb dX12_row_158 rfl ?_
                    refine va_get (D := D) (ci := 12) (v := .int (f86 6)) (C := RX12) (T := TX12) (N := 48) hx hb hg inC12 hown hK hP 0 rfl rfl 6 (by decide) (hg _ wt5_166) (fun _ h9 => h9) rfl dX12_row_159 ?_
                    refine k_top (z := c6) ((eE89.1 6 rfl).trans ec6.symm) ?_
                    refine lv_iload hx hb dX12_row_162 (lv_at hl 1 rfl) ?_
                    refine lv_if_eq (tgt := 171) hx hb dX12_row_164 (by decide) (fun c93 => ?_) (fun c93 => ?_)
                    · exact kb_dj c93 kc_1 kc_0 (by decide)
                    · refine lv_iconst (v := 0) hx hb dX12_row_167 (by decide) ?_
                      refine lv_goto (tgt := 172) hx hb dX12_row_168 (by decide) ?_
                      refine lv_iadd hx hb dX12_row_172 ?_
                      refine lv_topi (fun t94 et94 => ?_)
                      have b95 : kb (-20) t94 300 := kb_eq et94 (kb_add b19 kc_0 (by decide) (by decide))
                      have qt94 : t94.toInt = c6.toInt + 0 := by rw [et94]; exact kt_addc b19 kc_0 (by decide) (by decide)
                      refine va_put (D := D) (ci := 12) (v := .int t94) (ty := .int) (C := RX12) (T := TX12) (N := 48) hx hb hg inC12 tyX12 tyX12_ok nmX12 hown hK hP hD hS 0 rfl rfl 6 (by decide) (hg _ wt5_166) (fun _ h9 => h9) rfl (by decide +kernel) rfl rfl (Nat.le_of_ble_eq_true rfl) dX12_row_173 (fun H locs hP hD hS => ?_)
                      have hP : va_P D vwCl (mW K o r (upd f86 6 t94) a87 g88) H := hP
                      have hD : va_D A (mW K o r (upd f86 6 t94) a87 g88) := hD
                      refine k_gen (P := fun z => va_P D vwCl (mW K o r z a87 g88) H ∧ va_D A (mW K o r z a87 g88) ∧ (mI z a87) ∧ (mF (XR [(0, 63), (102, 103)]) f a z a87) ∧ (z 13 = 0) ∧ (z 14 = f 14)) (upd f86 6 t94) ⟨hP, hD, (mI_f hI (fI_st hI.1 6 (kb_any _) (by decide) (by decide))), (mF_f hE), ((pk_un (by decide)).trans hk0), ((pk_un (by decide)).trans hk1)⟩ (fun f_96 ef_96 hq => ?_)
                      obtain ⟨hP, hD, hI, hE, hk0, hk1⟩ := hq
                      obtain ⟨t97, et97⟩ : ∃ z : Int32, z = y11 + Int32.ofInt 4 := ⟨_, rfl⟩
                      have b98 : kb 4 t97 400 := kb_eq et97 (kb_add b36 (kb_ofInt 4 (by decide)) (by decide) (by decide))
                      have qt97 : t97.toInt = y11.toInt + 4 := by rw [et97]; exact km_add b36 (by decide) (by decide) (by decide)
                      refine lv_iinc (v := t97) (lv' := [(3, .int t97), (2, .int t91), (5, .int 1), (4, .int t40), (1, .int c13_f), (0, .ref o)]) hx hb dX12_row_176 hl (k := 3) rfl et97.symm (by decide) rfl (fun ls hl => ?_)
                      refine lv_goto (tgt := 40) hx hb dX12_row_179 (by decide) ?_
                      exact ihlp16 (k + 1) (mm + 1) f_96 a87 g88 _ _ _ t97 t91 (by omega) hI hE hk0 hk1 (kb_w b98 (by decide) (by decide)) (⟨mm, hvlp16_0, Or.inl ⟨⟨by have w1 := (b56).2; omega, (by have w1 := hvlp16_4; have w5 := (b36).1; have j0 : y11.toNatClampNeg = 4 * k := (by unfold Int32.toNatClampNeg; omega); have j1 : t37.toNatClampNeg = 4 * k + 1 := (by unfold Int32.toNatClampNeg; omega); have j2 : t58.toNatClampNeg = 4 * k + 2 := (by unfold Int32.toNatClampNeg; omega); have j3 : t61.toNatClampNeg = 4 * k + 3 := (by unfold Int32.toNatClampNeg; omega); have jn : cB = nI mm := Int32.toInt_inj.mp (by rw [nI_toInt (by have w2 := hvlp16_5; omega)]; exact hcB); have h := hw64.2.2.1 c67; rw [et57, et40, et39, et60, et63, hvlp16_6, j0, j1, j2, j3, ← ecB, jn] at h; exact h)⟩, rfl⟩⟩) ((by have w1 := hvlp16_1; have w2 := (show (a87 2 102).toInt = (B14 2 102).toInt + 1 from hw83.2.2); omega)) ((by have e1 := congrArg Int32.toInt ((show f_96 6 = t94 from by rw [← ef_96]; rfl)); have w1 := hc6; omega)) (by omega) (by omega) (⟨by have w1 := hvlp16_4; have w2 := (b36).2; omega, by have w1 := hvlp16_5; omega, by have w1 := hvlp16_5; have w2 := (b56).2; omega, by have w1 := hvlp16_4; have w3 := hrle; omega⟩) ((eE89.2.1.trans hvlp16_6)) hP hD hS (lv_sub hl [0, 1, 4, 5] rfl)
      exact lp16 (101) 0 N0 f_10 a g _ _ _ 0 0 (by omega) hI hE hk0 hk1 (kb_w kc_0 (by decide) (by decide)) ((rfl : N0 = N0)) ((by rw [ec2_102.symm]; omega)) ((by have e1 := congrArg Int32.toInt ((show f_10 6 = 1 from by rw [← ef_10]; rfl)); have q1 : ¬ t6.toInt = 0 := (fun q => c8 (Int32.toInt_inj.mp (q.trans (by decide +kernel)))); have z1 : (1 : Int32).toInt = 1 := (by decide +kernel); have w9 := (b9).1; omega)) ((by have z0 : (0 : Int32).toInt = 0 := (by decide +kernel); omega)) ((by have z0 : (0 : Int32).toInt = 0 := (by decide +kernel); omega)) (⟨by omega, by omega, by have w1 := (b2).2; omega, by omega⟩) ((by rfl)) hP hD hS (lv_sub hl [0, 1, 2, 3] rfl)
    · have b99 : kb 0 t6 0 := kb_eq c8 kc_0
      refine lv_iconst (v := 0) hx hb dX12_row_30 (by decide) ?_
      refine lv_goto (tgt := 35) hx hb dX12_row_31 (by decide) ?_
      refine va_put (D := D) (ci := 12) (v := .int 0) (ty := .int) (C := RX12) (T := TX12) (N := 48) hx hb hg inC12 tyX12 tyX12_ok nmX12 hown hK hP hD hS 0 rfl rfl 6 (by decide) (hg _ wt5_166) (fun _ h9 => h9) rfl (by decide +kernel) rfl rfl (Nat.le_of_ble_eq_true rfl) dX12_row_35 (fun H locs hP hD hS => ?_)
      have hP : va_P D vwCl (mW K o r (upd f_3 6 0) a g) H := hP
      have hD : va_D A (mW K o r (upd f_3 6 0) a g) := hD
      refine k_gen (P := fun z => va_P D vwCl (mW K o r z a g) H ∧ va_D A (mW K o r z a g) ∧ (mI z a) ∧ (mF (XR [(0, 63), (102, 103)]) f a z a) ∧ (z 13 = 0) ∧ (z 14 = f 14)) (upd f_3 6 0) ⟨hP, hD, (mI_f hI (fI_st hI.1 6 (kb_any _) (by decide) (by decide))), (mF_f hE), ((pk_un (by decide)).trans hk0), ((pk_un (by decide)).trans hk1)⟩ (fun f_100 ef_100 hq => ?_)
      obtain ⟨hP, hD, hI, hE, hk0, hk1⟩ := hq
      refine lv_iconst (v := 0) hx hb dX12_row_38 (by decide) ?_
      refine lv_istore_n (lv' := [(3, .int 0), (2, .int 0), (1, .int c13_f), (0, .ref o)]) hx hb dX12_row_39 rfl hl (by decide) rfl (fun ls hl => ?_)
      have lp106 : ∀ (n107 : Nat) (k : Nat) (mm : Nat) (F103 : Nat → Int32) (B104 : Nat → Nat → Int32) (G105 : Nat → Int64) (H : Heap) (locs : List Loc) (ls : Array Slot) (y101 : Int32) (y102 : Int32), ((100 : Int) < (k : Int) + (n107 : Int)) → (mI F103 B104) → (mF (XR [(0, 63), (102, 103)]) f a F103 B104) → (F103 13 = 0) → (F103 14 = f 14) → (kb 0 y101 400) → (rSt (rOKm (a 11)) N0 k mm) → ((B104 2 102).toInt = (mm : Int)) → ((F103 6).toInt + (mm : Int) - (N0 : Int) = (((T + 3) / 4 : Nat) : Int) - ((T / 4 : Nat) : Int) + (k : Int)) → (y102.toInt = (mm : Int) - (N0 : Int)) → (y101.toInt = 4 * (k : Int)) → (k ≤ 100 ∧ N0 ≤ mm ∧ mm ≤ 10 ∧ 4 * k ≤ T) → (B104 11 = a 11) → va_P D vwCl (mW K o r F103 B104 G105) H → va_D A (mW K o r F103 B104 G105) → va_S A s.heap H locs → lv_has ls 6 [(3, .int y101), (2, .int y102), (1, .int c13_f), (0, .ref o)] → W p l e (rmD 3 0 0) s m ([.ref o] : List Value).toArray below meth c H locs 0 0 (kQi D (tysK K) (fun v (u : mS) => kb (-2147483648) v 2147483647 ∧ mI u.1 u.2.1 ∧ mF (XR [(0, 63), (102, 103)]) f a u.1 u.2.1 ∧ u.1 13 = 0 ∧ rowP (rOKm (a 11)) (f 13) v (a 2 102) (u.2.1 2 102) (f 6) (u.1 6) ∧ u.2.1 11 = a 11 ∧ u.1 14 = f 14) (fun u => mW K o r u.1 u.2.1 u.2.2) A below ([.ref o] : List Value).toArray s 0 0) (F0 m 40 ls []) := by
        intro n107
        induction n107 with
        | zero =>
          intro k mm F103 B104 G105  H locs ls y101 y102 hmlp106 hI hE hk0 hk1 b108 hvlp106_0 hvlp106_1 hvlp106_2 hvlp106_3 hvlp106_4 hvlp106_5 hvlp106_6 hP hD hS hl
          exact (by have w1 := hmlp106; have w2 := hvlp106_5; omega : False).elim
        | succ n107 ihlp106 =>
          intro k mm F103 B104 G105  H locs ls y101 y102 hmlp106 hI hE hk0 hk1 b108 hvlp106_0 hvlp106_1 hvlp106_2 hvlp106_3 hvlp106_4 hvlp106_5 hvlp106_6 hP hD hS hl
          refine lv_iload_n hx hb dX12_row_40 rfl (lv_at hl 0 rfl) ?_
          obtain ⟨c6, ec6⟩ : ∃ z : Int32, z = F103 6 := ⟨_, rfl⟩
          have hc6 : c6.toInt + (mm : Int) - (N0 : Int) = (((T + 3) / 4 : Nat) : Int) - ((T / 4 : Nat) : Int) + (k : Int) := by rw [ec6]; exact hvlp106_2
          have hT4 : T ≤ 400 := by have w1 := (b5).2; omega
          have b109 : kb (-20) c6 300 := ⟨by have w1 := hc6; have w2 := hvlp106_5; omega, by have w1 := hc6; have w2 := hvlp106_5; omega⟩
          obtain ⟨cB, ecB⟩ : ∃ z : Int32, z = B104 2 102 := ⟨_, rfl⟩
          have hcB : cB.toInt = (mm : Int) := by rw [ecB]; exact hvlp106_1
          have b110 : kb 0 cB 10 := ⟨by omega, by have w2 := hvlp106_5; omega⟩
          have b111 : kb 0 y102 10 := ⟨by have w1 := hvlp106_3; have w2 := hvlp106_5; omega, by have w1 := hvlp106_3; have w2 := hvlp106_5; omega⟩
          refine lv_iconst (v := 4) hx hb dX12_row_41 (by decide) ?_
          refine lv_iadd hx hb dX12_row_42 ?_
          refine lv_topi (fun t112 et112 => ?_)
          have b113 : kb 4 t112 404 := kb_eq et112 (kb_add b108 kc_4 (by decide) (by decide))
          have qt112 : t112.toInt = y101.toInt + 4 := by rw [et112]; exact kt_addc b108 kc_4 (by decide) (by decide)
          refine lv_iload_n hx hb dX12_row_43 rfl (lv_at hl 2 rfl) ?_
          refine lv_icmp_gt (tgt := 182) hx hb dX12_row_44 (by decide) (fun c114 => ?_) (fun c114 => ?_)
          · have h115 := (kc_lt c114)
            have hrex := kc_lt c114
            refine lv_aload_n hx hb dX12_row_182 rfl (lv_at hl 3 rfl) ?_
            refine lv_iload_n hx hb dX12_row_183 rfl (lv_at hl 1 rfl) ?_
            refine kI.callV (As := [.int y102]) (rest := []) ⟨hx, hb, hml, hown, hg⟩ (m_settled l o r F103 B104 G105 hI y102  ) (cwV 1 hg (kgV wt6_84 wt6_86 wp3_7 wt1_14 wt6_87) rfl rfl rfl (by decide +kernel) ⟨by decide, by decide⟩) hK hP hD hS hA mIs [] rfl (wr := []) rfl rfl rfl (fun i h => by cases h) 0 12 rfl rfl rfl hl.1 rfl (Nat.le_of_ble_eq_true rfl) dX12_row_184 ⟨Nat.le_refl _, Nat.le_refl _⟩ (fun v117 u118 H locs hw116 hP hD hS => ?_)
            obtain ⟨f119, a120, g121⟩ := u118
            have hP : va_P D vwCl (mW K o r f119 a120 g121) H := hP
            have hD : va_D A (mW K o r f119 a120 g121) := hD
            have hI : mI f119 a120 := hw116.2.1
            have hE : mF (XR [(0, 63), (102, 103)]) f a f119 a120 := mF_tr hE (mF_w (XR_w (by decide)) (mF_of hw116.2.2.1))
            have eE122 : mE (XR []) F103 B104 f119 a120 := hw116.2.2.1
            have hk0 : f119 13 = 0 := (eE122.1 13 rfl).trans hk0
            have hk1 : f119 14 = f 14 := (eE122.1 14 rfl).trans hk1
            refine k_top (z := y102) hw116.2.2.2 ?_
            exact kI_ret (v := y102) hx hb hr hlocks rfl hK hS dX12_row_187 (f119, a120, g121) hP hD ⟨(kb_w b111 (by decide) (by decide)), hI, hE, hk0, (Or.inr ⟨(fun q => c4 (ec13_f.trans q)), mm, (by rw [← hN0, ← hT, show T / 4 = k from (by have w1 := hrex; have w2 := hvlp106_4; have w3 := hvlp106_5; omega)]; exact hvlp106_0), (by rw [← ec2_102, ← hNi]; exact hvlp106_3), (by show (a120 2 102).toInt = (mm : Int); have e1 := congrArg Int32.toInt (((eE122.2.2.1 (102) rfl).trans ecB.symm)); omega), (by show (f119 6).toInt + (mm : Int) - (a 2 102).toInt = _; rw [← hT, ← ec2_102]; have e1 := congrArg Int32.toInt (((eE122.1 6 rfl).trans ec6.symm)); have w1 := hc6; have w2 := hrex; have w3 := hvlp106_4; have w4 := hvlp106_5; omega)⟩), (eE122.2.1.trans hvlp106_6), hk1⟩
          · have h123 := (kc_nlt c114)
            have b124 : kb 4 t112 400 := kr_le1 h123 b113 b5
            have b125 : kb 4 c13_f 400 := kr_le2 h123 b113 b5
            have b126 : kb 0 y101 396 := ⟨b108.1, by have h1 := b124.2; omega⟩
            have hrle := kc_nlt c114
            refine lv_aload_n hx hb dX12_row_47 rfl (lv_at hl 3 rfl) ?_
            refine va_get (D := D) (ci := 12) (v := .ref (r 11)) (C := RX12) (T := TX12) (N := 48) hx hb hg inC12 hown hK hP 0 rfl rfl 11 (by decide) (hg _ wt5_171) (fun _ h9 => h9) rfl dX12_row_48 ?_
            refine lv_iload_n hx hb dX12_row_51 rfl (lv_at hl 0 rfl) ?_
            refine lv_iconst (v := 1) hx hb dX12_row_52 (by decide) ?_
            refine lv_iadd hx hb dX12_row_53 ?_
            refine lv_topi (fun t127 et127 => ?_)
            have b128 : kb 1 t127 397 := kb_eq et127 (kb_add b126 kc_1 (by decide) (by decide))
            have qt127 : t127.toInt = y101.toInt + 1 := by rw [et127]; exact kt_addc b126 kc_1 (by decide) (by decide)
            refine va_bald hx hb hK hP 7 1 rfl rfl (kb_in b128 (by decide) (by decide)) dX12_row_54 ?_
            refine lv_topi (fun t129 et129 => ?_)
            refine lv_sipush (v := 255) hx hb dX12_row_55 (by decide) ?_
            refine lv_iand hx hb dX12_row_58 ?_
            refine lv_topi (fun t130 et130 => ?_)
            have b131 : kb 0 t130 255 := kb_eq et130 (kb_and 8 (by decide) (by decide))
            refine lv_istore (lv' := [(4, .int t130), (3, .int y101), (2, .int y102), (1, .int c13_f), (0, .ref o)]) hx hb dX12_row_59 hl (by decide) rfl (fun ls hl => ?_)
            refine lv_aload_n hx hb dX12_row_61 rfl (lv_at hl 4 rfl) ?_
            refine va_get (D := D) (ci := 12) (v := .ref (r 2)) (C := RX12) (T := TX12) (N := 48) hx hb hg inC12 hown hK hP 0 rfl rfl 2 (by decide) (hg _ wt5_162) (fun _ h9 => h9) rfl dX12_row_62 ?_
            refine lv_bipush (v := 102) hx hb dX12_row_65 (by decide) ?_
            refine va_iald hx hb hK hP 2 0 rfl rfl (kb_in kc_102 (by decide) (by decide)) dX12_row_67 ?_
            refine k_top (z := cB) (by rw [cl_102]; exact ecB.symm) ?_
            refine lv_bipush (v := 10) hx hb dX12_row_68 (by decide) ?_
            refine lv_icmp_ge (tgt := 108) hx hb dX12_row_70 (by decide) (fun c132 => ?_) (fun c132 => ?_)
            · have h133 := (kc_le c132)
              have b134 : kb 10 cB 10 := kr_le2 h133 kc_10 b110
              refine lv_iconst (v := 0) hx hb dX12_row_108 (by decide) ?_
              refine lv_istore (lv' := [(5, .int 0), (4, .int t130), (3, .int y101), (2, .int y102), (1, .int c13_f), (0, .ref o)]) hx hb dX12_row_109 hl (by decide) rfl (fun ls hl => ?_)
              refine lv_iload hx hb dX12_row_111 (lv_at hl 0 rfl) ?_
              refine lv_if_eq (tgt := 144) hx hb dX12_row_113 (by decide) (fun c135 => ?_) (fun c135 => ?_)
              · refine lv_iload_n hx hb dX12_row_144 rfl (lv_at hl 3 rfl) ?_
                refine lv_iload hx hb dX12_row_145 (lv_at hl 0 rfl) ?_
                refine lv_if_eq (tgt := 154) hx hb dX12_row_147 (by decide) (fun c136 => ?_) (fun c136 => ?_)
                · refine lv_iconst (v := 0) hx hb dX12_row_154 (by decide) ?_
                  refine lv_iadd hx hb dX12_row_155 ?_
                  refine lv_topi (fun t137 et137 => ?_)
                  have b138 : kb 0 t137 10 := kb_eq et137 (kb_add b111 kc_0 (by decide) (by decide))
                  have qt137 : t137.toInt = y102.toInt + 0 := by rw [et137]; exact kt_addc b111 kc_0 (by decide) (by decide)
                  refine lv_istore_n (lv' := [(2, .int t137), (5, .int 0), (4, .int t130), (3, .int y101), (1, .int c13_f), (0, .ref o)]) hx hb dX12_row_156 rfl hl (by decide) rfl (fun ls hl => ?_)
                  refine lv_aload_n hx hb dX12_row_157 rfl (lv_at hl 5 rfl) ?_
                  refine lv_dup hx hb dX12_row_158 rfl ?_
                  refine va_get (D := D) (ci := 12) (v := .int (F103 6)) (C := RX12) (T := TX12) (N := 48) hx hb hg inC12 hown hK hP 0 rfl rfl 6 (by decide) (hg _ wt5_166) (fun _ h9 => h9) rfl dX12_row_159 ?_
                  refine k_top (z := c6) ec6.symm ?_
                  refine lv_iload hx hb dX12_row_162 (lv_at hl 1 rfl) ?_
                  refine lv_if_eq (tgt := 171) hx hb dX12_row_164 (by decide) (fun c139 => ?_) (fun c139 => ?_)
                  · refine lv_iconst (v := 1) hx hb dX12_row_171 (by decide) ?_
                    refine lv_iadd hx hb dX12_row_172 ?_
                    refine lv_topi (fun t140 et140 => ?_)
                    have b141 : kb (-19) t140 301 := kb_eq et140 (kb_add b109 kc_1 (by decide) (by decide))
                    have qt140 : t140.toInt = c6.toInt + 1 := by rw [et140]; exact kt_addc b109 kc_1 (by decide) (by decide)
                    refine va_put (D := D) (ci := 12) (v := .int t140) (ty := .int) (C := RX12) (T := TX12) (N := 48) hx hb hg inC12 tyX12 tyX12_ok nmX12 hown hK hP hD hS 0 rfl rfl 6 (by decide) (hg _ wt5_166) (fun _ h9 => h9) rfl (by decide +kernel) rfl rfl (Nat.le_of_ble_eq_true rfl) dX12_row_173 (fun H locs hP hD hS => ?_)
                    have hP : va_P D vwCl (mW K o r (upd F103 6 t140) B104 G105) H := hP
                    have hD : va_D A (mW K o r (upd F103 6 t140) B104 G105) := hD
                    refine k_gen (P := fun z => va_P D vwCl (mW K o r z B104 G105) H ∧ va_D A (mW K o r z B104 G105) ∧ (mI z B104) ∧ (mF (XR [(0, 63), (102, 103)]) f a z B104) ∧ (z 13 = 0) ∧ (z 14 = f 14)) (upd F103 6 t140) ⟨hP, hD, (mI_f hI (fI_st hI.1 6 (kb_any _) (by decide) (by decide))), (mF_f hE), ((pk_un (by decide)).trans hk0), ((pk_un (by decide)).trans hk1)⟩ (fun f_142 ef_142 hq => ?_)
                    obtain ⟨hP, hD, hI, hE, hk0, hk1⟩ := hq
                    obtain ⟨t143, et143⟩ : ∃ z : Int32, z = y101 + Int32.ofInt 4 := ⟨_, rfl⟩
                    have b144 : kb 4 t143 400 := kb_eq et143 (kb_add b126 (kb_ofInt 4 (by decide)) (by decide) (by decide))
                    have qt143 : t143.toInt = y101.toInt + 4 := by rw [et143]; exact km_add b126 (by decide) (by decide) (by decide)
                    refine lv_iinc (v := t143) (lv' := [(3, .int t143), (2, .int t137), (5, .int 0), (4, .int t130), (1, .int c13_f), (0, .ref o)]) hx hb dX12_row_176 hl (k := 3) rfl et143.symm (by decide) rfl (fun ls hl => ?_)
                    refine lv_goto (tgt := 40) hx hb dX12_row_179 (by decide) ?_
                    exact ihlp106 (k + 1) mm f_142 B104 G105 _ _ _ t143 t137 (by omega) hI hE hk0 hk1 (kb_w b144 (by decide) (by decide)) (⟨mm, hvlp106_0, Or.inr ⟨fun q => by have q1 := q.1; have w1 := (b134).1; omega, rfl⟩⟩) (hvlp106_1) ((by have e1 := congrArg Int32.toInt ((show f_142 6 = t140 from by rw [← ef_142]; rfl)); have w1 := hc6; omega)) (by omega) (by omega) (⟨by have w1 := hvlp106_4; have w2 := (b126).2; omega, by have w1 := hvlp106_5; omega, by have w1 := hvlp106_5; omega, by have w1 := hvlp106_4; have w3 := hrle; omega⟩) (hvlp106_6) hP hD hS (lv_sub hl [0, 1, 4, 5] rfl)
                  · exact kb_nsame c139 kc_0 kc_0
                · exact kb_nsame c136 kc_0 kc_0
              · exact kb_nsame c135 kc_0 kc_0
            · have h145 := (kc_nle c132)
              have b146 : kb 0 cB 9 := kr_lt1 h145 b110 kc_10 (by decide)
              refine lv_aload_n hx hb dX12_row_73 rfl (lv_at hl 4 rfl) ?_
              refine lv_aload_n hx hb dX12_row_74 rfl (lv_at hl 4 rfl) ?_
              refine va_get (D := D) (ci := 12) (v := .ref (r 11)) (C := RX12) (T := TX12) (N := 48) hx hb hg inC12 hown hK hP 0 rfl rfl 11 (by decide) (hg _ wt5_171) (fun _ h9 => h9) rfl dX12_row_75 ?_
              refine lv_iload_n hx hb dX12_row_78 rfl (lv_at hl 1 rfl) ?_
              refine va_bald hx hb hK hP 7 1 rfl rfl (kb_in b126 (by decide) (by decide)) dX12_row_79 ?_
              refine lv_topi (fun t147 et147 => ?_)
              refine lv_iload hx hb dX12_row_80 (lv_at hl 0 rfl) ?_
              refine lv_aload_n hx hb dX12_row_82 rfl (lv_at hl 4 rfl) ?_
              refine va_get (D := D) (ci := 12) (v := .ref (r 11)) (C := RX12) (T := TX12) (N := 48) hx hb hg inC12 hown hK hP 0 rfl rfl 11 (by decide) (hg _ wt5_171) (fun _ h9 => h9) rfl dX12_row_83 ?_
              refine lv_iload_n hx hb dX12_row_86 rfl (lv_at hl 1 rfl) ?_
              refine lv_iconst (v := 2) hx hb dX12_row_87 (by decide) ?_
              refine lv_iadd hx hb dX12_row_88 ?_
              refine lv_topi (fun t148 et148 => ?_)
              have b149 : kb 2 t148 398 := kb_eq et148 (kb_add b126 kc_2 (by decide) (by decide))
              have qt148 : t148.toInt = y101.toInt + 2 := by rw [et148]; exact kt_addc b126 kc_2 (by decide) (by decide)
              refine va_bald hx hb hK hP 7 1 rfl rfl (kb_in b149 (by decide) (by decide)) dX12_row_89 ?_
              refine lv_topi (fun t150 et150 => ?_)
              refine lv_aload_n hx hb dX12_row_90 rfl (lv_at hl 4 rfl) ?_
              refine va_get (D := D) (ci := 12) (v := .ref (r 11)) (C := RX12) (T := TX12) (N := 48) hx hb hg inC12 hown hK hP 0 rfl rfl 11 (by decide) (hg _ wt5_171) (fun _ h9 => h9) rfl dX12_row_91 ?_
              refine lv_iload_n hx hb dX12_row_94 rfl (lv_at hl 1 rfl) ?_
              refine lv_iconst (v := 3) hx hb dX12_row_95 (by decide) ?_
              refine lv_iadd hx hb dX12_row_96 ?_
              refine lv_topi (fun t151 et151 => ?_)
              have b152 : kb 3 t151 399 := kb_eq et151 (kb_add b126 kc_3 (by decide) (by decide))
              have qt151 : t151.toInt = y101.toInt + 3 := by rw [et151]; exact kt_addc b126 kc_3 (by decide) (by decide)
              refine va_bald hx hb hK hP 7 1 rfl rfl (kb_in b152 (by decide) (by decide)) dX12_row_97 ?_
              refine lv_topi (fun t153 et153 => ?_)
              refine kI.callV (As := [.int t147, .int t130, .int t150, .int t153]) (rest := []) ⟨hx, hb, hml, hown, hg⟩ (m_canPart l o r F103 B104 G105 hI t147 t130 t150 t153  ) (cwV 4 hg (kgV wt6_92 wt6_94 wp3_8 wt1_14 wt6_95) rfl rfl rfl (by decide +kernel) ⟨by decide, by decide⟩) hK hP hD hS hA mIs [] rfl (wr := []) rfl rfl rfl (fun i h => by cases h) 0 12 rfl rfl rfl hl.1 rfl (Nat.le_of_ble_eq_true rfl) dX12_row_98 ⟨Nat.le_refl _, Nat.le_refl _⟩ (fun v155 u156 H locs hw154 hP hD hS => ?_)
              have hP : va_P D vwCl (mW K o r F103 B104 G105) H := hP
              have hD : va_D A (mW K o r F103 B104 G105) := hD
              refine lv_if_eq (tgt := 108) hx hb dX12_row_101 (by decide) (fun c157 => ?_) (fun c157 => ?_)
              · have b158 : kb 0 v155 0 := kb_eq c157 kc_0
                refine lv_iconst (v := 0) hx hb dX12_row_108 (by decide) ?_
                refine lv_istore (lv' := [(5, .int 0), (4, .int t130), (3, .int y101), (2, .int y102), (1, .int c13_f), (0, .ref o)]) hx hb dX12_row_109 hl (by decide) rfl (fun ls hl => ?_)
                refine lv_iload hx hb dX12_row_111 (lv_at hl 0 rfl) ?_
                refine lv_if_eq (tgt := 144) hx hb dX12_row_113 (by decide) (fun c159 => ?_) (fun c159 => ?_)
                · refine lv_iload_n hx hb dX12_row_144 rfl (lv_at hl 3 rfl) ?_
                  refine lv_iload hx hb dX12_row_145 (lv_at hl 0 rfl) ?_
                  refine lv_if_eq (tgt := 154) hx hb dX12_row_147 (by decide) (fun c160 => ?_) (fun c160 => ?_)
                  · refine lv_iconst (v := 0) hx hb dX12_row_154 (by decide) ?_
                    refine lv_iadd hx hb dX12_row_155 ?_
                    refine lv_topi (fun t161 et161 => ?_)
                    have b162 : kb 0 t161 10 := kb_eq et161 (kb_add b111 kc_0 (by decide) (by decide))
                    have qt161 : t161.toInt = y102.toInt + 0 := by rw [et161]; exact kt_addc b111 kc_0 (by decide) (by decide)
                    refine lv_istore_n (lv' := [(2, .int t161), (5, .int 0), (4, .int t130), (3, .int y101), (1, .int c13_f), (0, .ref o)]) hx hb dX12_row_156 rfl hl (by decide) rfl (fun ls hl => ?_)
                    refine lv_aload_n hx hb dX12_row_157 rfl (lv_at hl 5 rfl) ?_
                    refine lv_dup hx hb dX12_row_158 rfl ?_
                    refine va_get (D := D) (ci := 12) (v := .int (F103 6)) (C := RX12) (T := TX12) (N := 48) hx hb hg inC12 hown hK hP 0 rfl rfl 6 (by decide) (hg _ wt5_166) (fun _ h9 => h9) rfl dX12_row_159 ?_
                    refine k_top (z := c6) ec6.symm ?_
                    refine lv_iload hx hb dX12_row_162 (lv_at hl 1 rfl) ?_
                    refine lv_if_eq (tgt := 171) hx hb dX12_row_164 (by decide) (fun c163 => ?_) (fun c163 => ?_)
                    · refine lv_iconst (v := 1) hx hb dX12_row_171 (by decide) ?_
                      refine lv_iadd hx hb dX12_row_172 ?_
                      refine lv_topi (fun t164 et164 => ?_)
                      have b165 : kb (-19) t164 301 := kb_eq et164 (kb_add b109 kc_1 (by decide) (by decide))
                      have qt164 : t164.toInt = c6.toInt + 1 := by rw [et164]; exact kt_addc b109 kc_1 (by decide) (by decide)
                      refine va_put (D := D) (ci := 12) (v := .int t164) (ty := .int) (C := RX12) (T := TX12) (N := 48) hx hb hg inC12 tyX12 tyX12_ok nmX12 hown hK hP hD hS 0 rfl rfl 6 (by decide) (hg _ wt5_166) (fun _ h9 => h9) rfl (by decide +kernel) rfl rfl (Nat.le_of_ble_eq_true rfl) dX12_row_173 (fun H locs hP hD hS => ?_)
                      have hP : va_P D vwCl (mW K o r (upd F103 6 t164) B104 G105) H := hP
                      have hD : va_D A (mW K o r (upd F103 6 t164) B104 G105) := hD
                      refine k_gen (P := fun z => va_P D vwCl (mW K o r z B104 G105) H ∧ va_D A (mW K o r z B104 G105) ∧ (mI z B104) ∧ (mF (XR [(0, 63), (102, 103)]) f a z B104) ∧ (z 13 = 0) ∧ (z 14 = f 14)) (upd F103 6 t164) ⟨hP, hD, (mI_f hI (fI_st hI.1 6 (kb_any _) (by decide) (by decide))), (mF_f hE), ((pk_un (by decide)).trans hk0), ((pk_un (by decide)).trans hk1)⟩ (fun f_166 ef_166 hq => ?_)
                      obtain ⟨hP, hD, hI, hE, hk0, hk1⟩ := hq
                      obtain ⟨t167, et167⟩ : ∃ z : Int32, z = y101 + Int32.ofInt 4 := ⟨_, rfl⟩
                      have b168 : kb 4 t167 400 := kb_eq et167 (kb_add b126 (kb_ofInt 4 (by decide)) (by decide) (by decide))
                      have qt167 : t167.toInt = y101.toInt + 4 := by rw [et167]; exact km_add b126 (by decide) (by decide) (by decide)
                      refine lv_iinc (v := t167) (lv' := [(3, .int t167), (2, .int t161), (5, .int 0), (4, .int t130), (1, .int c13_f), (0, .ref o)]) hx hb dX12_row_176 hl (k := 3) rfl et167.symm (by decide) rfl (fun ls hl => ?_)
                      refine lv_goto (tgt := 40) hx hb dX12_row_179 (by decide) ?_
                      exact ihlp106 (k + 1) mm f_166 B104 G105 _ _ _ t167 t161 (by omega) hI hE hk0 hk1 (kb_w b168 (by decide) (by decide)) (⟨mm, hvlp106_0, Or.inr ⟨fun q => (hw154.2.2.2 c157) (by have w1 := hvlp106_4; have w5 := (b126).1; have j0 : y101.toNatClampNeg = 4 * k := (by unfold Int32.toNatClampNeg; omega); have j1 : t127.toNatClampNeg = 4 * k + 1 := (by unfold Int32.toNatClampNeg; omega); have j2 : t148.toNatClampNeg = 4 * k + 2 := (by unfold Int32.toNatClampNeg; omega); have j3 : t151.toNatClampNeg = 4 * k + 3 := (by unfold Int32.toNatClampNeg; omega); have jn : cB = nI mm := Int32.toInt_inj.mp (by rw [nI_toInt (by have w2 := hvlp106_5; omega)]; exact hcB); rw [et147, et130, et129, et150, et153, hvlp106_6, j0, j1, j2, j3, ← ecB, jn]; exact q.2), rfl⟩⟩) (hvlp106_1) ((by have e1 := congrArg Int32.toInt ((show f_166 6 = t164 from by rw [← ef_166]; rfl)); have w1 := hc6; omega)) (by omega) (by omega) (⟨by have w1 := hvlp106_4; have w2 := (b126).2; omega, by have w1 := hvlp106_5; omega, by have w1 := hvlp106_5; omega, by have w1 := hvlp106_4; have w3 := hrle; omega⟩) (hvlp106_6) hP hD hS (lv_sub hl [0, 1, 4, 5] rfl)
                    · exact kb_nsame c163 kc_0 kc_0
                  · exact kb_nsame c160 kc_0 kc_0
                · exact kb_nsame c159 kc_0 kc_0
              · have b169 : kb 1 v155 1 := kr_nel c157 hw154.1 kc_0 (by decide)
                have h170 := hw154.2.1 c157
                have b171 : kb 1 t147 99 := kb_of2 h170
                refine lv_iconst (v := 1) hx hb dX12_row_104 (by decide) ?_
                refine lv_goto (tgt := 109) hx hb dX12_row_105 (by decide) ?_
                refine lv_istore (lv' := [(5, .int 1), (4, .int t130), (3, .int y101), (2, .int y102), (1, .int c13_f), (0, .ref o)]) hx hb dX12_row_109 hl (by decide) rfl (fun ls hl => ?_)
                refine lv_iload hx hb dX12_row_111 (lv_at hl 0 rfl) ?_
                refine lv_if_eq (tgt := 144) hx hb dX12_row_113 (by decide) (fun c172 => ?_) (fun c172 => ?_)
                · exact kb_dj c172 kc_1 kc_0 (by decide)
                · refine lv_aload_n hx hb dX12_row_116 rfl (lv_at hl 5 rfl) ?_
                  refine lv_aload_n hx hb dX12_row_117 rfl (lv_at hl 5 rfl) ?_
                  refine va_get (D := D) (ci := 12) (v := .ref (r 11)) (C := RX12) (T := TX12) (N := 48) hx hb hg inC12 hown hK hP 0 rfl rfl 11 (by decide) (hg _ wt5_171) (fun _ h9 => h9) rfl dX12_row_118 ?_
                  refine lv_iload_n hx hb dX12_row_121 rfl (lv_at hl 2 rfl) ?_
                  refine va_bald hx hb hK hP 7 1 rfl rfl (kb_in b126 (by decide) (by decide)) dX12_row_122 ?_
                  refine k_top (z := t147) et147.symm ?_
                  refine lv_iload hx hb dX12_row_123 (lv_at hl 1 rfl) ?_
                  refine lv_aload_n hx hb dX12_row_125 rfl (lv_at hl 5 rfl) ?_
                  refine va_get (D := D) (ci := 12) (v := .ref (r 11)) (C := RX12) (T := TX12) (N := 48) hx hb hg inC12 hown hK hP 0 rfl rfl 11 (by decide) (hg _ wt5_171) (fun _ h9 => h9) rfl dX12_row_126 ?_
                  refine lv_iload_n hx hb dX12_row_129 rfl (lv_at hl 2 rfl) ?_
                  refine lv_iconst (v := 2) hx hb dX12_row_130 (by decide) ?_
                  refine lv_iadd hx hb dX12_row_131 ?_
                  refine k_top (z := t148) et148.symm ?_
                  refine va_bald hx hb hK hP 7 1 rfl rfl (kb_in b149 (by decide) (by decide)) dX12_row_132 ?_
                  refine k_top (z := t150) et150.symm ?_
                  refine lv_aload_n hx hb dX12_row_133 rfl (lv_at hl 5 rfl) ?_
                  refine va_get (D := D) (ci := 12) (v := .ref (r 11)) (C := RX12) (T := TX12) (N := 48) hx hb hg inC12 hown hK hP 0 rfl rfl 11 (by decide) (hg _ wt5_171) (fun _ h9 => h9) rfl dX12_row_134 ?_
                  refine lv_iload_n hx hb dX12_row_137 rfl (lv_at hl 2 rfl) ?_
                  refine lv_iconst (v := 3) hx hb dX12_row_138 (by decide) ?_
                  refine lv_iadd hx hb dX12_row_139 ?_
                  refine k_top (z := t151) et151.symm ?_
                  refine va_bald hx hb hK hP 7 1 rfl rfl (kb_in b152 (by decide) (by decide)) dX12_row_140 ?_
                  refine k_top (z := t153) et153.symm ?_
                  refine kV.callV (As := [.int t147, .int t130, .int t150, .int t153]) (rest := []) ⟨hx, hb, hml, hown, hg⟩ (m_addsPart l o r F103 B104 G105 hI t147 t130 t150 t153 b171 (kb_eq ecB.symm b146)) (cwV 4 hg (kgV wt6_96 wt6_98 wp3_9 wt1_14 wt6_99) rfl rfl rfl (by decide +kernel) ⟨by decide, by decide⟩) hK hP hD hS hA mIs [] rfl (wr := []) rfl rfl rfl (fun i h => by cases h) 0 12 rfl rfl rfl hl.1 rfl (Nat.le_of_ble_eq_true rfl) dX12_row_141 ⟨Nat.le_refl _, Nat.le_refl _⟩ (fun u175 H locs hw173 hP hD hS => ?_)
                  obtain ⟨f176, a177, g178⟩ := u175
                  have hP : va_P D vwCl (mW K o r f176 a177 g178) H := hP
                  have hD : va_D A (mW K o r f176 a177 g178) := hD
                  have hI : mI f176 a177 := hw173.1
                  have hE : mF (XR [(0, 63), (102, 103)]) f a f176 a177 := mF_tr hE (mF_of hw173.2.1)
                  have eE179 : mE (XR [(0, 63), (102, 103)]) F103 B104 f176 a177 := hw173.2.1
                  have hk0 : f176 13 = 0 := (eE179.1 13 rfl).trans hk0
                  have hk1 : f176 14 = f 14 := (eE179.1 14 rfl).trans hk1
                  refine lv_iload_n hx hb dX12_row_144 rfl (lv_at hl 3 rfl) ?_
                  refine lv_iload hx hb dX12_row_145 (lv_at hl 0 rfl) ?_
                  refine lv_if_eq (tgt := 154) hx hb dX12_row_147 (by decide) (fun c180 => ?_) (fun c180 => ?_)
                  · exact kb_dj c180 kc_1 kc_0 (by decide)
                  · refine lv_iconst (v := 1) hx hb dX12_row_150 (by decide) ?_
                    refine lv_goto (tgt := 155) hx hb dX12_row_151 (by decide) ?_
                    refine lv_iadd hx hb dX12_row_155 ?_
                    refine lv_topi (fun t181 et181 => ?_)
                    have b182 : kb 1 t181 11 := kb_eq et181 (kb_add b111 kc_1 (by decide) (by decide))
                    have qt181 : t181.toInt = y102.toInt + 1 := by rw [et181]; exact kt_addc b111 kc_1 (by decide) (by decide)
                    refine lv_istore_n (lv' := [(2, .int t181), (5, .int 1), (4, .int t130), (3, .int y101), (1, .int c13_f), (0, .ref o)]) hx hb dX12_row_156 rfl hl (by decide) rfl (fun ls hl => ?_)
                    refine lv_aload_n hx hb dX12_row_157 rfl (lv_at hl 5 rfl) ?_
                    refine lv_dup hx hb dX12_row_158 rfl ?_
                    refine va_get (D := D) (ci := 12) (v := .int (f176 6)) (C := RX12) (T := TX12) (N := 48) hx hb hg inC12 hown hK hP 0 rfl rfl 6 (by decide) (hg _ wt5_166) (fun _ h9 => h9) rfl dX12_row_159 ?_
                    refine k_top (z := c6) ((eE179.1 6 rfl).trans ec6.symm) ?_
                    refine lv_iload hx hb dX12_row_162 (lv_at hl 1 rfl) ?_
                    refine lv_if_eq (tgt := 171) hx hb dX12_row_164 (by decide) (fun c183 => ?_) (fun c183 => ?_)
                    · exact kb_dj c183 kc_1 kc_0 (by decide)
                    · refine lv_iconst (v := 0) hx hb dX12_row_167 (by decide) ?_
                      refine lv_goto (tgt := 172) hx hb dX12_row_168 (by decide) ?_
                      refine lv_iadd hx hb dX12_row_172 ?_
                      refine lv_topi (fun t184 et184 => ?_)
                      have b185 : kb (-20) t184 300 := kb_eq et184 (kb_add b109 kc_0 (by decide) (by decide))
                      have qt184 : t184.toInt = c6.toInt + 0 := by rw [et184]; exact kt_addc b109 kc_0 (by decide) (by decide)
                      refine va_put (D := D) (ci := 12) (v := .int t184) (ty := .int) (C := RX12) (T := TX12) (N := 48) hx hb hg inC12 tyX12 tyX12_ok nmX12 hown hK hP hD hS 0 rfl rfl 6 (by decide) (hg _ wt5_166) (fun _ h9 => h9) rfl (by decide +kernel) rfl rfl (Nat.le_of_ble_eq_true rfl) dX12_row_173 (fun H locs hP hD hS => ?_)
                      have hP : va_P D vwCl (mW K o r (upd f176 6 t184) a177 g178) H := hP
                      have hD : va_D A (mW K o r (upd f176 6 t184) a177 g178) := hD
                      refine k_gen (P := fun z => va_P D vwCl (mW K o r z a177 g178) H ∧ va_D A (mW K o r z a177 g178) ∧ (mI z a177) ∧ (mF (XR [(0, 63), (102, 103)]) f a z a177) ∧ (z 13 = 0) ∧ (z 14 = f 14)) (upd f176 6 t184) ⟨hP, hD, (mI_f hI (fI_st hI.1 6 (kb_any _) (by decide) (by decide))), (mF_f hE), ((pk_un (by decide)).trans hk0), ((pk_un (by decide)).trans hk1)⟩ (fun f_186 ef_186 hq => ?_)
                      obtain ⟨hP, hD, hI, hE, hk0, hk1⟩ := hq
                      obtain ⟨t187, et187⟩ : ∃ z : Int32, z = y101 + Int32.ofInt 4 := ⟨_, rfl⟩
                      have b188 : kb 4 t187 400 := kb_eq et187 (kb_add b126 (kb_ofInt 4 (by decide)) (by decide) (by decide))
                      have qt187 : t187.toInt = y101.toInt + 4 := by rw [et187]; exact km_add b126 (by decide) (by decide) (by decide)
                      refine lv_iinc (v := t187) (lv' := [(3, .int t187), (2, .int t181), (5, .int 1), (4, .int t130), (1, .int c13_f), (0, .ref o)]) hx hb dX12_row_176 hl (k := 3) rfl et187.symm (by decide) rfl (fun ls hl => ?_)
                      refine lv_goto (tgt := 40) hx hb dX12_row_179 (by decide) ?_
                      exact ihlp106 (k + 1) (mm + 1) f_186 a177 g178 _ _ _ t187 t181 (by omega) hI hE hk0 hk1 (kb_w b188 (by decide) (by decide)) (⟨mm, hvlp106_0, Or.inl ⟨⟨by have w1 := (b146).2; omega, (by have w1 := hvlp106_4; have w5 := (b126).1; have j0 : y101.toNatClampNeg = 4 * k := (by unfold Int32.toNatClampNeg; omega); have j1 : t127.toNatClampNeg = 4 * k + 1 := (by unfold Int32.toNatClampNeg; omega); have j2 : t148.toNatClampNeg = 4 * k + 2 := (by unfold Int32.toNatClampNeg; omega); have j3 : t151.toNatClampNeg = 4 * k + 3 := (by unfold Int32.toNatClampNeg; omega); have jn : cB = nI mm := Int32.toInt_inj.mp (by rw [nI_toInt (by have w2 := hvlp106_5; omega)]; exact hcB); have h := hw154.2.2.1 c157; rw [et147, et130, et129, et150, et153, hvlp106_6, j0, j1, j2, j3, ← ecB, jn] at h; exact h)⟩, rfl⟩⟩) ((by have w1 := hvlp106_1; have w2 := (show (a177 2 102).toInt = (B104 2 102).toInt + 1 from hw173.2.2); omega)) ((by have e1 := congrArg Int32.toInt ((show f_186 6 = t184 from by rw [← ef_186]; rfl)); have w1 := hc6; omega)) (by omega) (by omega) (⟨by have w1 := hvlp106_4; have w2 := (b126).2; omega, by have w1 := hvlp106_5; omega, by have w1 := hvlp106_5; have w2 := (b146).2; omega, by have w1 := hvlp106_4; have w3 := hrle; omega⟩) ((eE179.2.1.trans hvlp106_6)) hP hD hS (lv_sub hl [0, 1, 4, 5] rfl)
      exact lp106 (101) 0 N0 f_100 a g _ _ _ 0 0 (by omega) hI hE hk0 hk1 (kb_w kc_0 (by decide) (by decide)) ((rfl : N0 = N0)) ((by rw [ec2_102.symm]; omega)) ((by have e1 := congrArg Int32.toInt ((show f_100 6 = 0 from by rw [← ef_100]; rfl)); have q1 := congrArg Int32.toInt c8; have z0 : (0 : Int32).toInt = 0 := (by decide +kernel); omega)) ((by have z0 : (0 : Int32).toInt = 0 := (by decide +kernel); omega)) ((by have z0 : (0 : Int32).toInt = 0 := (by decide +kernel); omega)) (⟨by omega, by omega, by have w1 := (b2).2; omega, by omega⟩) ((by rfl)) hP hD hS (lv_sub hl [0, 1, 2, 3] rfl)
  · have b189 : kb 0 c13_f 0 := kb_eq c4 kc_0
    refine lv_aload_n hx hb dX12_row_14 rfl (lv_at hl 1 rfl) ?_
    refine lv_bipush (v := (-6)) hx hb dX12_row_15 (by decide) ?_
    refine kI.callV (As := [.int (-6)]) (rest := []) ⟨hx, hb, hml, hown, hg⟩ (m_refuses l o r f_3 a g hI (-6) (kb_w kc_m6 (by decide) (by decide)) ) (cwV 1 hg (kgV wt6_72 wt6_74 wp3_5 wt1_14 wt6_75) rfl rfl rfl (by decide +kernel) ⟨by decide, by decide⟩) hK hP hD hS hA mIs [] rfl (wr := []) rfl rfl rfl (fun i h => by cases h) 0 12 rfl rfl rfl hl.1 rfl (Nat.le_of_ble_eq_true rfl) dX12_row_17 ⟨Nat.le_refl _, Nat.le_refl _⟩ (fun v191 u192 H locs hw190 hP hD hS => ?_)
    obtain ⟨f193, a194, g195⟩ := u192
    have hP : va_P D vwCl (mW K o r f193 a194 g195) H := hP
    have hD : va_D A (mW K o r f193 a194 g195) := hD
    have hI : mI f193 a194 := hw190.2.1
    have hE : mF (XR [(0, 63), (102, 103)]) f a f193 a194 := mF_tr hE (mF_w (XR_w (by decide)) (mF_of hw190.2.2.1))
    have eE196 : mE (XR []) f_3 a f193 a194 := hw190.2.2.1
    have hk0 : f193 13 = 0 := (eE196.1 13 rfl).trans hk0
    have hk1 : f193 14 = f 14 := (eE196.1 14 rfl).trans hk1
    refine k_top (z := (-6)) hw190.2.2.2 ?_
    exact kI_ret (v := (-6)) hx hb hr hlocks rfl hK hS dX12_row_20 (f193, a194, g195) hP hD ⟨(kb_w kc_m6 (by decide) (by decide)), hI, hE, hk0, (Or.inl ⟨ec13_f.symm.trans c4, rfl, ((((eE196.2.2.1 (102) rfl).trans ec2_102.symm)).trans ec2_102), ((((eE196.1 6 rfl).trans ((show f_3 6 = f 6 from by rw [← ef_3]; rfl).trans ec6_f.symm))).trans ec6_f)⟩), (eE196.2.1), hk1⟩
