theorem mLies_ne {x lo hi : Int32} (h : ¬ mLies x lo hi = 0) : lo.toInt ≤ x.toInt ∧ x.toInt ≤ hi.toInt := by
  unfold mLies at h
  by_cases h1 : x < lo
  · rw [if_pos h1] at h; exact absurd rfl h
  · rw [if_neg h1] at h
    by_cases h2 : hi < x
    · rw [if_pos h2] at h; exact absurd rfl h
    · exact ⟨kc_nlt h1, kc_nlt h2⟩
theorem mLies_z {x lo hi : Int32} {l h : Int} (e : mLies x lo hi = 0) (el : lo.toInt = l) (eh : hi.toInt = h) : ¬ (l ≤ x.toInt ∧ x.toInt ≤ h) := by
  unfold mLies at e
  intro q
  by_cases h1 : x < lo
  · have := kc_lt h1; omega
  · rw [if_neg h1] at e
    by_cases h2 : hi < x
    · have := kc_lt h2; omega
    · rw [if_neg h2] at e; exact absurd e (by decide +kernel)
theorem kb_max {v x y : Int32} {l1 h1 l2 h2 : Int} {L H : Int} (e : v = x ∨ v = y) (q1 : x.toInt ≤ v.toInt) (q2 : y.toInt ≤ v.toInt) (b1 : kb l1 x h1) (b2 : kb l2 y h2) (p1 : L ≤ l1 ∨ L ≤ l2) (p2 : h1 ≤ H) (p3 : h2 ≤ H) : kb L v H := by
  have := b1.1; have := b1.2; have := b2.1; have := b2.2
  unfold kb
  rcases e with e | e <;> (have e := congrArg Int32.toInt e) <;> omega
theorem kb_min {v x y : Int32} {l1 h1 l2 h2 : Int} {L H : Int} (e : v = x ∨ v = y) (q1 : v.toInt ≤ x.toInt) (q2 : v.toInt ≤ y.toInt) (b1 : kb l1 x h1) (b2 : kb l2 y h2) (p1 : H ≥ h1 ∨ H ≥ h2) (p2 : L ≤ l1) (p3 : L ≤ l2) : kb L v H := by
  have := b1.1; have := b1.2; have := b2.1; have := b2.2
  unfold kb
  rcases e with e | e <;> (have e := congrArg Int32.toInt e) <;> omega
theorem aI_mv {B : Nat → Nat → Int × Int} {a : Nat → Nat → Int32} (h : aI B a) (s k s' k' : Nat) {y : Int32} (e : y = a s' k') (q : B s k = B s' k') : aI B (va_up a s (upd (a s) k y)) := by
  have h1 := h s' k'
  rw [← e, ← q] at h1
  exact aI_st h s k (L := (B s k).1) (H := (B s k).2) h1 (Int.le_refl _) (Int.le_refl _)
theorem mB_5 {k i : Nat} (hk : k < 2) (hi : i < 23) : mBa 5 (23 * k + i) = mBa 2 i := by
  have : k = 0 ∨ k = 1 := by omega
  rcases this with e | e
  · rw [e, Nat.mul_zero, Nat.zero_add]
    show (if i < 23 then mB2 i else _) = mB2 i
    rw [if_pos hi]
  · rw [e]
    show (if 23 * 1 + i < 23 then _ else if 23 * 1 + i < 46 then mB2 (23 * 1 + i - 23) else _) = mB2 i
    rw [if_neg (by omega), if_pos (by omega)]
    have : 23 * 1 + i - 23 = i := by omega
    rw [this]
theorem mB_31 {u i : Nat} (hu : u < 16) (hi : i < 23) : mBa 31 (24 * u + i) = mBa 2 i := by
  show (if 24 * u + i < 384 ∧ (24 * u + i) % 24 < 23 then mB2 ((24 * u + i) % 24) else _) = mB2 i
  have e : (24 * u + i) % 24 = i := by omega
  rw [if_pos (by omega), e]
theorem mB_31f {u : Nat} : mBa 31 (24 * u + 23) = kAny := by
  show (if 24 * u + 23 < 384 ∧ (24 * u + 23) % 24 < 23 then mB2 ((24 * u + 23) % 24) else _) = kAny
  rw [if_neg (by omega)]
theorem mB_31s {i : Nat} (hi : i < 360) : mBa 31 i = mBa 31 (i + 24) := by
  show (if i < 384 ∧ i % 24 < 23 then mB2 (i % 24) else _) = (if i + 24 < 384 ∧ (i + 24) % 24 < 23 then mB2 ((i + 24) % 24) else _)
  have e : (i + 24) % 24 = i % 24 := by omega
  rw [e]
  by_cases h : i % 24 < 23
  · rw [if_pos ⟨by omega, h⟩, if_pos ⟨by omega, h⟩]
  · rw [if_neg (by omega), if_neg (by omega)]
theorem kq_5 {x k t : Int32} (bx : kb 0 x 22) (bk : kb 0 k 1) (e : t.toInt = 23 * k.toInt + x.toInt) : mBa 5 t.toNatClampNeg = mBa 2 x.toNatClampNeg := by
  have h1 := kb_cl bx (by decide); have h2 := kb_cl bk (by decide)
  have := bx.1; have := bx.2; have := bk.1; have := bk.2
  have h3 : (t.toNatClampNeg : Int) = t.toInt := kb_cl (l := 0) (h := 45) ⟨by omega, by omega⟩ (by decide)
  have h4 : t.toNatClampNeg = 23 * k.toNatClampNeg + x.toNatClampNeg := by omega
  rw [h4]; exact mB_5 (by omega) (by omega)
theorem kq_31 {x k t : Int32} (bx : kb 0 x 22) (bk : kb 0 k 15) (e : t.toInt = 24 * k.toInt + x.toInt) : mBa 31 t.toNatClampNeg = mBa 2 x.toNatClampNeg := by
  have h1 := kb_cl bx (by decide); have h2 := kb_cl bk (by decide)
  have := bx.1; have := bx.2; have := bk.1; have := bk.2
  have h3 : (t.toNatClampNeg : Int) = t.toInt := kb_cl (l := 0) (h := 400) ⟨by omega, by omega⟩ (by decide)
  have h4 : t.toNatClampNeg = 24 * k.toNatClampNeg + x.toNatClampNeg := by omega
  rw [h4]; exact mB_31 (by omega) (by omega)
theorem kq_31f {k t : Int32} (bk : kb 0 k 15) (e : t.toInt = 24 * k.toInt + 23) : mBa 31 t.toNatClampNeg = kAny := by
  have h2 := kb_cl bk (by decide)
  have := bk.1; have := bk.2
  have h3 : (t.toNatClampNeg : Int) = t.toInt := kb_cl (l := 0) (h := 400) ⟨by omega, by omega⟩ (by decide)
  have h4 : t.toNatClampNeg = 24 * k.toNatClampNeg + 23 := by omega
  rw [h4]; exact mB_31f
theorem kq_31s {x t : Int32} (bx : kb 0 x 359) (e : t.toInt = x.toInt + 24) : mBa 31 x.toNatClampNeg = mBa 31 t.toNatClampNeg := by
  have h1 := kb_cl bx (by decide)
  have := bx.1; have := bx.2
  have h3 : (t.toNatClampNeg : Int) = t.toInt := kb_cl (l := 0) (h := 400) ⟨by omega, by omega⟩ (by decide)
  have h4 : t.toNatClampNeg = x.toNatClampNeg + 24 := by omega
  rw [h4]; exact mB_31s (by omega)
theorem aI_any {B : Nat → Nat → Int × Int} {a : Nat → Nat → Int32} (h : aI B a) (s k : Nat) {y : Int32} (q : B s k = kAny) : aI B (va_up a s (upd (a s) k y)) := aI_st h s k (kb_any y) (by rw [q]; exact Int.le_refl _) (by rw [q]; exact Int.le_refl _)

/-- which fields and rows may change -/
def mZ (F A : List Nat) (f : Nat → Int32) (a : Nat → Nat → Int32) (f' : Nat → Int32) (a' : Nat → Nat → Int32) : Prop := (∀ k, F.contains k = false → f' k = f k) ∧ (∀ s, A.contains s = false → a' s = a s)
theorem mZ_rf {F A : List Nat} {f : Nat → Int32} {a : Nat → Nat → Int32} : mZ F A f a f a := ⟨fun _ _ => rfl, fun _ _ => rfl⟩
theorem mZ_tr {F A : List Nat} {f f1 f2 : Nat → Int32} {a a1 a2 : Nat → Nat → Int32} (h : mZ F A f a f1 a1) (q : mZ F A f1 a1 f2 a2) : mZ F A f a f2 a2 := ⟨fun k hk => (q.1 k hk).trans (h.1 k hk), fun k hk => (q.2 k hk).trans (h.2 k hk)⟩
theorem mZ_f {F A : List Nat} {f f1 : Nat → Int32} {a a1 : Nat → Nat → Int32} (h : mZ F A f a f1 a1) {k : Nat} {v : Int32} (hk : F.contains k = true) : mZ F A f a (upd f1 k v) a1 := ⟨fun j hj => (pk_un (fun e => by rw [e, hk] at hj; cases hj)).trans (h.1 j hj), h.2⟩
theorem mZ_a {F A : List Nat} {f f1 : Nat → Int32} {a a1 : Nat → Nat → Int32} (h : mZ F A f a f1 a1) {s : Nat} {u : Nat → Int32} (hs : A.contains s = true) : mZ F A f a f1 (va_up a1 s u) := by
  refine ⟨h.1, fun j hj => ?_⟩
  have n : j ≠ s := fun e => by rw [e, hs] at hj; cases hj
  unfold va_up
  rw [if_neg n]
  exact h.2 j hj
theorem lw_sb {L M : List Nat} (w : L.all (fun k => M.contains k) = true) {k : Nat} (hk : M.contains k = false) : L.contains k = false := by
  cases hx : L.contains k with
  | false => rfl
  | true =>
    have := List.all_eq_true.mp w k (List.contains_iff_mem.mp hx)
    rw [this] at hk; cases hk
theorem mZ_w {F A F' A' : List Nat} {f f1 : Nat → Int32} {a a1 : Nat → Nat → Int32} (w1 : F.all (fun k => F'.contains k) = true) (w2 : A.all (fun k => A'.contains k) = true) (h : mZ F A f a f1 a1) : mZ F' A' f a f1 a1 := ⟨fun k hk => h.1 k (lw_sb w1 hk), fun k hk => h.2 k (lw_sb w2 hk)⟩
theorem mZ_fE {F A : List Nat} {f f1 f2 : Nat → Int32} {a a1 : Nat → Nat → Int32} (h : mZ F A f a f1 a1) (q : fE F f1 f2) : mZ F A f a f2 a1 := ⟨fun k hk => (q k hk).trans (h.1 k hk), h.2⟩
theorem cl_nat {x : Int32} {i : Nat} (e : x.toInt = (i : Int)) : x.toNatClampNeg = i := by
  unfold Int32.toNatClampNeg
  omega
/-- one more number of a copy -/
theorem cp_st {B B' : Nat → Nat → Int32} {D d nn k : Nat} {v : Int32} {S : Nat → Int32} (h : ∀ q, q < nn → B D (d + q) = S q) (e : va_up B D (upd (B D) k v) = B') (hk : k = d + nn) (hv : v = S nn) : ∀ q, q < nn + 1 → B' D (d + q) = S q := by
  intro q hq
  rw [← e]
  unfold va_up
  rw [if_pos rfl]
  by_cases c : q = nn
  · rw [c, ← hk, pk_us]; exact hv
  · rw [pk_un (by omega)]; exact h q (by omega)
theorem kb_11 {x : Int32} (h : kb 1 x 1) : x = 1 := Int32.toInt_inj.mp (by have h1 := h.1; have h2 := h.2; have e : (1 : Int32).toInt = 1 := (by decide +kernel); omega)
theorem dX12_lies_0 : decode cX12_lies 0 = .ok (.iload_n 0, 1) := by decide +kernel
theorem dX12_lies_1 : decode cX12_lies 1 = .ok (.iload_n 1, 1) := by decide +kernel
theorem dX12_lies_2 : decode cX12_lies 2 = .ok (.if_icmp .lt 12, 3) := by decide +kernel
theorem dX12_lies_5 : decode cX12_lies 5 = .ok (.iload_n 0, 1) := by decide +kernel
theorem dX12_lies_6 : decode cX12_lies 6 = .ok (.iload_n 2, 1) := by decide +kernel
theorem dX12_lies_7 : decode cX12_lies 7 = .ok (.if_icmp .gt 7, 3) := by decide +kernel
theorem dX12_lies_10 : decode cX12_lies 10 = .ok (.iconst 1, 1) := by decide +kernel
theorem dX12_lies_11 : decode cX12_lies 11 = .ok (.goto 4, 3) := by decide +kernel
theorem dX12_lies_14 : decode cX12_lies 14 = .ok (.iconst 0, 1) := by decide +kernel
theorem dX12_lies_15 : decode cX12_lies 15 = .ok (.ireturn, 1) := by decide +kernel
theorem dX12_refuses_0 : decode cX12_refuses 0 = .ok (.aload_n 0, 1) := by decide +kernel
theorem dX12_refuses_1 : decode cX12_refuses 1 = .ok (.iload_n 1, 1) := by decide +kernel
theorem dX12_refuses_2 : decode cX12_refuses 2 = .ok (.putfield 3, 3) := by decide +kernel
theorem dX12_refuses_5 : decode cX12_refuses 5 = .ok (.aload_n 0, 1) := by decide +kernel
theorem dX12_refuses_6 : decode cX12_refuses 6 = .ok (.getfield 7, 3) := by decide +kernel
theorem dX12_refuses_9 : decode cX12_refuses 9 = .ok (.iload_n 1, 1) := by decide +kernel
theorem dX12_refuses_10 : decode cX12_refuses 10 = .ok (.ineg, 1) := by decide +kernel
theorem dX12_refuses_11 : decode cX12_refuses 11 = .ok (.dup2, 1) := by decide +kernel
theorem dX12_refuses_12 : decode cX12_refuses 12 = .ok (.iaload, 1) := by decide +kernel
theorem dX12_refuses_13 : decode cX12_refuses 13 = .ok (.iconst 1, 1) := by decide +kernel
theorem dX12_refuses_14 : decode cX12_refuses 14 = .ok (.iadd, 1) := by decide +kernel
theorem dX12_refuses_15 : decode cX12_refuses 15 = .ok (.iastore, 1) := by decide +kernel
theorem dX12_refuses_16 : decode cX12_refuses 16 = .ok (.iload_n 1, 1) := by decide +kernel
theorem dX12_refuses_17 : decode cX12_refuses 17 = .ok (.ireturn, 1) := by decide +kernel
theorem dX12_good_0 : decode cX12_good 0 = .ok (.aload_n 0, 1) := by decide +kernel
theorem dX12_good_1 : decode cX12_good 1 = .ok (.iconst 0, 1) := by decide +kernel
theorem dX12_good_2 : decode cX12_good 2 = .ok (.putfield 3, 3) := by decide +kernel
theorem dX12_good_5 : decode cX12_good 5 = .ok (.iload_n 1, 1) := by decide +kernel
theorem dX12_good_6 : decode cX12_good 6 = .ok (.ireturn, 1) := by decide +kernel
theorem dX12_settled_0 : decode cX12_settled 0 = .ok (.aload_n 0, 1) := by decide +kernel
theorem dX12_settled_1 : decode cX12_settled 1 = .ok (.iconst 0, 1) := by decide +kernel
theorem dX12_settled_2 : decode cX12_settled 2 = .ok (.putfield 11, 3) := by decide +kernel
theorem dX12_settled_5 : decode cX12_settled 5 = .ok (.aload_n 0, 1) := by decide +kernel
theorem dX12_settled_6 : decode cX12_settled 6 = .ok (.iload_n 1, 1) := by decide +kernel
theorem dX12_settled_7 : decode cX12_settled 7 = .ok (.invokevirtual 14, 3) := by decide +kernel
theorem dX12_settled_10 : decode cX12_settled 10 = .ok (.ireturn, 1) := by decide +kernel
theorem dX12_isIn_0 : decode cX12_isIn 0 = .ok (.iload_n 0, 1) := by decide +kernel
theorem dX12_isIn_1 : decode cX12_isIn 1 = .ok (.iload_n 1, 1) := by decide +kernel
theorem dX12_isIn_2 : decode cX12_isIn 2 = .ok (.ishr, 1) := by decide +kernel
theorem dX12_isIn_3 : decode cX12_isIn 3 = .ok (.iconst 1, 1) := by decide +kernel
theorem dX12_isIn_4 : decode cX12_isIn 4 = .ok (.iand, 1) := by decide +kernel
theorem dX12_isIn_5 : decode cX12_isIn 5 = .ok (.iconst 1, 1) := by decide +kernel
theorem dX12_isIn_6 : decode cX12_isIn 6 = .ok (.if_icmp .ne 7, 3) := by decide +kernel
theorem dX12_isIn_9 : decode cX12_isIn 9 = .ok (.iconst 1, 1) := by decide +kernel
theorem dX12_isIn_10 : decode cX12_isIn 10 = .ok (.goto 4, 3) := by decide +kernel
theorem dX12_isIn_13 : decode cX12_isIn 13 = .ok (.iconst 0, 1) := by decide +kernel
theorem dX12_isIn_14 : decode cX12_isIn 14 = .ok (.ireturn, 1) := by decide +kernel
theorem dX12_ones_0 : decode cX12_ones 0 = .ok (.iconst 0, 1) := by decide +kernel
theorem dX12_ones_1 : decode cX12_ones 1 = .ok (.istore_n 1, 1) := by decide +kernel
theorem dX12_ones_2 : decode cX12_ones 2 = .ok (.iconst 0, 1) := by decide +kernel
theorem dX12_ones_3 : decode cX12_ones 3 = .ok (.istore_n 2, 1) := by decide +kernel
theorem dX12_ones_4 : decode cX12_ones 4 = .ok (.iload_n 2, 1) := by decide +kernel
theorem dX12_ones_5 : decode cX12_ones 5 = .ok (.bipush 10, 2) := by decide +kernel
theorem dX12_ones_7 : decode cX12_ones 7 = .ok (.if_icmp .ge 17, 3) := by decide +kernel
theorem dX12_ones_10 : decode cX12_ones 10 = .ok (.iload_n 1, 1) := by decide +kernel
theorem dX12_ones_11 : decode cX12_ones 11 = .ok (.iload_n 0, 1) := by decide +kernel
theorem dX12_ones_12 : decode cX12_ones 12 = .ok (.iload_n 2, 1) := by decide +kernel
theorem dX12_ones_13 : decode cX12_ones 13 = .ok (.ishr, 1) := by decide +kernel
theorem dX12_ones_14 : decode cX12_ones 14 = .ok (.iconst 1, 1) := by decide +kernel
theorem dX12_ones_15 : decode cX12_ones 15 = .ok (.iand, 1) := by decide +kernel
theorem dX12_ones_16 : decode cX12_ones 16 = .ok (.iadd, 1) := by decide +kernel
theorem dX12_ones_17 : decode cX12_ones 17 = .ok (.istore_n 1, 1) := by decide +kernel
theorem dX12_ones_18 : decode cX12_ones 18 = .ok (.iinc 2 1, 3) := by decide +kernel
theorem dX12_ones_21 : decode cX12_ones 21 = .ok (.goto (-17), 3) := by decide +kernel
theorem dX12_ones_24 : decode cX12_ones 24 = .ok (.iload_n 1, 1) := by decide +kernel
theorem dX12_ones_25 : decode cX12_ones 25 = .ok (.ireturn, 1) := by decide +kernel
theorem dX12_lesser_0 : decode cX12_lesser 0 = .ok (.iload_n 0, 1) := by decide +kernel
theorem dX12_lesser_1 : decode cX12_lesser 1 = .ok (.iload_n 1, 1) := by decide +kernel
theorem dX12_lesser_2 : decode cX12_lesser 2 = .ok (.if_icmp .ge 7, 3) := by decide +kernel
theorem dX12_lesser_5 : decode cX12_lesser 5 = .ok (.iload_n 0, 1) := by decide +kernel
theorem dX12_lesser_6 : decode cX12_lesser 6 = .ok (.goto 4, 3) := by decide +kernel
theorem dX12_lesser_9 : decode cX12_lesser 9 = .ok (.iload_n 1, 1) := by decide +kernel
theorem dX12_lesser_10 : decode cX12_lesser 10 = .ok (.ireturn, 1) := by decide +kernel
theorem dX12_greater_0 : decode cX12_greater 0 = .ok (.iload_n 0, 1) := by decide +kernel
theorem dX12_greater_1 : decode cX12_greater 1 = .ok (.iload_n 1, 1) := by decide +kernel
theorem dX12_greater_2 : decode cX12_greater 2 = .ok (.if_icmp .le 7, 3) := by decide +kernel
theorem dX12_greater_5 : decode cX12_greater 5 = .ok (.iload_n 0, 1) := by decide +kernel
theorem dX12_greater_6 : decode cX12_greater 6 = .ok (.goto 4, 3) := by decide +kernel
theorem dX12_greater_9 : decode cX12_greater 9 = .ok (.iload_n 1, 1) := by decide +kernel
theorem dX12_greater_10 : decode cX12_greater 10 = .ok (.ireturn, 1) := by decide +kernel
theorem dX12_isPart_0 : decode cX12_isPart 0 = .ok (.iload_n 1, 1) := by decide +kernel
theorem dX12_isPart_1 : decode cX12_isPart 1 = .ok (.iconst 0, 1) := by decide +kernel
theorem dX12_isPart_2 : decode cX12_isPart 2 = .ok (.aload_n 0, 1) := by decide +kernel
theorem dX12_isPart_3 : decode cX12_isPart 3 = .ok (.getfield 24, 3) := by decide +kernel
theorem dX12_isPart_6 : decode cX12_isPart 6 = .ok (.bipush 102, 2) := by decide +kernel
theorem dX12_isPart_8 : decode cX12_isPart 8 = .ok (.iaload, 1) := by decide +kernel
theorem dX12_isPart_9 : decode cX12_isPart 9 = .ok (.iconst 1, 1) := by decide +kernel
theorem dX12_isPart_10 : decode cX12_isPart 10 = .ok (.isub, 1) := by decide +kernel
theorem dX12_isPart_11 : decode cX12_isPart 11 = .ok (.invokestatic 96, 3) := by decide +kernel
theorem dX12_isPart_14 : decode cX12_isPart 14 = .ok (.ireturn, 1) := by decide +kernel
theorem dX12_isBuilder_0 : decode cX12_isBuilder 0 = .ok (.iload_n 1, 1) := by decide +kernel
theorem dX12_isBuilder_1 : decode cX12_isBuilder 1 = .ok (.iconst 0, 1) := by decide +kernel
theorem dX12_isBuilder_2 : decode cX12_isBuilder 2 = .ok (.aload_n 0, 1) := by decide +kernel
theorem dX12_isBuilder_3 : decode cX12_isBuilder 3 = .ok (.getfield 24, 3) := by decide +kernel
theorem dX12_isBuilder_6 : decode cX12_isBuilder 6 = .ok (.bipush 103, 2) := by decide +kernel
theorem dX12_isBuilder_8 : decode cX12_isBuilder 8 = .ok (.iaload, 1) := by decide +kernel
theorem dX12_isBuilder_9 : decode cX12_isBuilder 9 = .ok (.iconst 1, 1) := by decide +kernel
theorem dX12_isBuilder_10 : decode cX12_isBuilder 10 = .ok (.isub, 1) := by decide +kernel
theorem dX12_isBuilder_11 : decode cX12_isBuilder 11 = .ok (.invokestatic 96, 3) := by decide +kernel
theorem dX12_isBuilder_14 : decode cX12_isBuilder 14 = .ok (.ireturn, 1) := by decide +kernel
theorem wt5_160 : Cond.fieldLink RX12 3 "SunriseRoofModel" "status" "I" ∈ kG := kt5 160 rfl rfl
theorem wt5_193 : Cond.fieldLink RX12 11 "SunriseRoofModel" "undoMany" "I" ∈ kG := kt5 193 rfl rfl
theorem wt6_76 : Cond.methodLink RX12 14 yX12_good ∈ kG := kt6 76 rfl rfl
theorem wt6_78 : Cond.instanceMethod yX12_good ∈ kG := kt6 78 rfl rfl
theorem wp3_6 : Cond.selects RX12 yX12_good yX12_good ∈ kG := kp3 6 rfl rfl
theorem wt1_14 : Cond.initialized RX12 ∈ kG := kt1 14 rfl rfl
theorem wt6_79 : Cond.code yX12_good cX12_good 2 (some .int) ∈ kG := kt6 79 rfl rfl
theorem wt6_69 : Cond.methodLink RX12 96 yX12_lies ∈ kG := kt6 69 rfl rfl
theorem wt6_70 : Cond.static yX12_lies ∈ kG := kt6 70 rfl rfl
theorem wt6_71 : Cond.code yX12_lies cX12_lies 3 (some .boolean) ∈ kG := kt6 71 rfl rfl
theorem cl_102 : (102 : Int32).toNatClampNeg = 102 := by decide +kernel
theorem cl_103 : (103 : Int32).toNatClampNeg = 103 := by decide +kernel
theorem kc_0 : kb 0 0 0 := ⟨by decide +kernel, by decide +kernel⟩
theorem kc_1 : kb 1 1 1 := ⟨by decide +kernel, by decide +kernel⟩
theorem kc_10 : kb 10 10 10 := ⟨by decide +kernel, by decide +kernel⟩
theorem kc_102 : kb 102 102 102 := ⟨by decide +kernel, by decide +kernel⟩
theorem kc_103 : kb 103 103 103 := ⟨by decide +kernel, by decide +kernel⟩
set_option maxHeartbeats 4000000 in
set_option maxRecDepth 100000 in
theorem m_lies (l : Launch) (x : Int32) (lo : Int32) (hi : Int32)   : kN l yX12_lies (Cond.code yX12_lies cX12_lies 3 (some .boolean) :: kG) (rmD 1 0 0) [.int x, .int lo, .int hi] (fun v => kb 0 v 1 ∧ v = mLies x lo hi) := by
  refine kN.of (cc := cX12_lies) (maxL := 3) (ret := (some .boolean)) (by decide) rfl (Nat.le_of_ble_eq_true rfl) ?_
  intro p e s m below meth c hx hb hr hml hown hts hlocks hS ls hl
  have hg : ∀ w ∈ kG, w.before _ s = true := fun w h => hts w (List.mem_cons_of_mem _ h)
  have hown : s.vm.findClass RX12 = some m.cls := hown
  have hl : lv_has ls 3 [(0, .int x), (1, .int lo), (2, .int hi)] := hl
  refine lv_iload_n hx hb dX12_lies_0 rfl (lv_at hl 0 rfl) ?_
  refine lv_iload_n hx hb dX12_lies_1 rfl (lv_at hl 1 rfl) ?_
  refine lv_icmp_lt (tgt := 14) hx hb dX12_lies_2 (by decide) (fun c1 => ?_) (fun c1 => ?_)
  · have h2 := (kc_lt c1)
    have b3 : kb (-2147483648) x 2147483646 := kr_lt1 h2 (kb_any x) (kb_any lo) (by decide)
    have b4 : kb (-2147483647) lo 2147483647 := kr_lt2 h2 (kb_any x) (kb_any lo) (by decide)
    refine lv_iconst (v := 0) hx hb dX12_lies_14 (by decide) ?_
    exact kN_ret (v := 0) hx hb hr hlocks (by decide +kernel) hS dX12_lies_15 (⟨(kb_w kc_0 (by decide) (by decide)), (by simp [mLies, c1])⟩)
  · have h5 := (kc_nlt c1)
    refine lv_iload_n hx hb dX12_lies_5 rfl (lv_at hl 0 rfl) ?_
    refine lv_iload_n hx hb dX12_lies_6 rfl (lv_at hl 2 rfl) ?_
    refine lv_icmp_gt (tgt := 14) hx hb dX12_lies_7 (by decide) (fun c6 => ?_) (fun c6 => ?_)
    · have h7 := (kc_lt c6)
      have b8 : kb (-2147483648) hi 2147483646 := kr_lt1 h7 (kb_any hi) (kb_any x) (by decide)
      have b9 : kb (-2147483647) x 2147483647 := kr_lt2 h7 (kb_any hi) (kb_any x) (by decide)
      refine lv_iconst (v := 0) hx hb dX12_lies_14 (by decide) ?_
      exact kN_ret (v := 0) hx hb hr hlocks (by decide +kernel) hS dX12_lies_15 (⟨(kb_w kc_0 (by decide) (by decide)), (by simp [mLies, c1, c6])⟩)
    · have h10 := (kc_nlt c6)
      refine lv_iconst (v := 1) hx hb dX12_lies_10 (by decide) ?_
      refine lv_goto (tgt := 15) hx hb dX12_lies_11 (by decide) ?_
      exact kN_ret (v := 1) hx hb hr hlocks (by decide +kernel) hS dX12_lies_15 (⟨(kb_w kc_1 (by decide) (by decide)), (by simp [mLies, c1, c6])⟩)
set_option maxHeartbeats 4000000 in
set_option maxRecDepth 100000 in
theorem m_isIn (l : Launch) (x : Int32) (y : Int32)   : kN l yX12_isIn (Cond.code yX12_isIn cX12_isIn 2 (some .boolean) :: kG) (rmD 1 0 0) [.int x, .int y] (fun v => kb 0 v 1) := by
  refine kN.of (cc := cX12_isIn) (maxL := 2) (ret := (some .boolean)) (by decide) rfl (Nat.le_of_ble_eq_true rfl) ?_
  intro p e s m below meth c hx hb hr hml hown hts hlocks hS ls hl
  have hg : ∀ w ∈ kG, w.before _ s = true := fun w h => hts w (List.mem_cons_of_mem _ h)
  have hown : s.vm.findClass RX12 = some m.cls := hown
  have hl : lv_has ls 2 [(0, .int x), (1, .int y)] := hl
  refine lv_iload_n hx hb dX12_isIn_0 rfl (lv_at hl 0 rfl) ?_
  refine lv_iload_n hx hb dX12_isIn_1 rfl (lv_at hl 1 rfl) ?_
  refine lv_ishr hx hb dX12_isIn_2 ?_
  refine lv_topi (fun t1 et1 => ?_)
  refine lv_iconst (v := 1) hx hb dX12_isIn_3 (by decide) ?_
  refine lv_iand hx hb dX12_isIn_4 ?_
  refine lv_topi (fun t2 et2 => ?_)
  have b3 : kb 0 t2 1 := kb_eq et2 (kb_and 1 (by decide) (by decide))
  refine lv_iconst (v := 1) hx hb dX12_isIn_5 (by decide) ?_
  refine lv_icmp_ne (tgt := 13) hx hb dX12_isIn_6 (by decide) (fun c4 => ?_) (fun c4 => ?_)
  · have b5 : kb 0 t2 0 := kr_neh c4 b3 kc_1 (by decide)
    refine lv_iconst (v := 0) hx hb dX12_isIn_13 (by decide) ?_
    exact kN_ret (v := 0) hx hb hr hlocks (by decide +kernel) hS dX12_isIn_14 (kb_w kc_0 (by decide) (by decide))
  · have b6 : kb 1 t2 1 := kb_eq c4 kc_1
    refine lv_iconst (v := 1) hx hb dX12_isIn_9 (by decide) ?_
    refine lv_goto (tgt := 14) hx hb dX12_isIn_10 (by decide) ?_
    exact kN_ret (v := 1) hx hb hr hlocks (by decide +kernel) hS dX12_isIn_14 (kb_w kc_1 (by decide) (by decide))
set_option maxHeartbeats 4000000 in
set_option maxRecDepth 100000 in
theorem m_lesser (l : Launch) (x : Int32) (y : Int32)   : kN l yX12_lesser (Cond.code yX12_lesser cX12_lesser 2 (some .int) :: kG) (rmD 1 0 0) [.int x, .int y] (fun v => kb (-2147483648) v 2147483647 ∧ (v = x ∨ v = y) ∧ v.toInt ≤ x.toInt ∧ v.toInt ≤ y.toInt) := by
  refine kN.of (cc := cX12_lesser) (maxL := 2) (ret := (some .int)) (by decide) rfl (Nat.le_of_ble_eq_true rfl) ?_
  intro p e s m below meth c hx hb hr hml hown hts hlocks hS ls hl
  have hg : ∀ w ∈ kG, w.before _ s = true := fun w h => hts w (List.mem_cons_of_mem _ h)
  have hown : s.vm.findClass RX12 = some m.cls := hown
  have hl : lv_has ls 2 [(0, .int x), (1, .int y)] := hl
  refine lv_iload_n hx hb dX12_lesser_0 rfl (lv_at hl 0 rfl) ?_
  refine lv_iload_n hx hb dX12_lesser_1 rfl (lv_at hl 1 rfl) ?_
  refine lv_icmp_ge (tgt := 9) hx hb dX12_lesser_2 (by decide) (fun c1 => ?_) (fun c1 => ?_)
  · have h2 := (kc_le c1)
    refine lv_iload_n hx hb dX12_lesser_9 rfl (lv_at hl 1 rfl) ?_
    exact kN_ret (v := y) hx hb hr hlocks rfl hS dX12_lesser_10 (⟨(kb_any y), (Or.inr rfl), (by omega), (Int.le_refl _)⟩)
  · have h3 := (kc_nle c1)
    have b4 : kb (-2147483648) x 2147483646 := kr_lt1 h3 (kb_any x) (kb_any y) (by decide)
    have b5 : kb (-2147483647) y 2147483647 := kr_lt2 h3 (kb_any x) (kb_any y) (by decide)
    refine lv_iload_n hx hb dX12_lesser_5 rfl (lv_at hl 0 rfl) ?_
    refine lv_goto (tgt := 10) hx hb dX12_lesser_6 (by decide) ?_
    exact kN_ret (v := x) hx hb hr hlocks rfl hS dX12_lesser_10 (⟨(kb_w b4 (by decide) (by decide)), (Or.inl rfl), (Int.le_refl _), (by omega)⟩)
set_option maxHeartbeats 4000000 in
set_option maxRecDepth 100000 in
theorem m_greater (l : Launch) (x : Int32) (y : Int32)   : kN l yX12_greater (Cond.code yX12_greater cX12_greater 2 (some .int) :: kG) (rmD 1 0 0) [.int x, .int y] (fun v => kb (-2147483648) v 2147483647 ∧ (v = x ∨ v = y) ∧ x.toInt ≤ v.toInt ∧ y.toInt ≤ v.toInt) := by
  refine kN.of (cc := cX12_greater) (maxL := 2) (ret := (some .int)) (by decide) rfl (Nat.le_of_ble_eq_true rfl) ?_
  intro p e s m below meth c hx hb hr hml hown hts hlocks hS ls hl
  have hg : ∀ w ∈ kG, w.before _ s = true := fun w h => hts w (List.mem_cons_of_mem _ h)
  have hown : s.vm.findClass RX12 = some m.cls := hown
  have hl : lv_has ls 2 [(0, .int x), (1, .int y)] := hl
  refine lv_iload_n hx hb dX12_greater_0 rfl (lv_at hl 0 rfl) ?_
  refine lv_iload_n hx hb dX12_greater_1 rfl (lv_at hl 1 rfl) ?_
  refine lv_icmp_le (tgt := 9) hx hb dX12_greater_2 (by decide) (fun c1 => ?_) (fun c1 => ?_)
  · have h2 := (kc_le c1)
    refine lv_iload_n hx hb dX12_greater_9 rfl (lv_at hl 1 rfl) ?_
    exact kN_ret (v := y) hx hb hr hlocks rfl hS dX12_greater_10 (⟨(kb_any y), (Or.inr rfl), (by omega), (Int.le_refl _)⟩)
  · have h3 := (kc_nle c1)
    have b4 : kb (-2147483648) y 2147483646 := kr_lt1 h3 (kb_any y) (kb_any x) (by decide)
    have b5 : kb (-2147483647) x 2147483647 := kr_lt2 h3 (kb_any y) (kb_any x) (by decide)
    refine lv_iload_n hx hb dX12_greater_5 rfl (lv_at hl 0 rfl) ?_
    refine lv_goto (tgt := 10) hx hb dX12_greater_6 (by decide) ?_
    exact kN_ret (v := x) hx hb hr hlocks rfl hS dX12_greater_10 (⟨(kb_w b5 (by decide) (by decide)), (Or.inl rfl), (Int.le_refl _), (by omega)⟩)
set_option maxHeartbeats 4000000 in
set_option maxRecDepth 100000 in
theorem m_ones (l : Launch) (x : Int32)   : kN l yX12_ones (Cond.code yX12_ones cX12_ones 3 (some .int) :: kG) (rmD 1 0 0) [.int x] (fun v => kb 0 v 10) := by
  refine kN.of (cc := cX12_ones) (maxL := 3) (ret := (some .int)) (by decide) rfl (Nat.le_of_ble_eq_true rfl) ?_
  intro p e s m below meth c hx hb hr hml hown hts hlocks hS ls hl
  have hg : ∀ w ∈ kG, w.before _ s = true := fun w h => hts w (List.mem_cons_of_mem _ h)
  have hown : s.vm.findClass RX12 = some m.cls := hown
  have hl : lv_has ls 3 [(0, .int x)] := hl
  refine lv_iconst (v := 0) hx hb dX12_ones_0 (by decide) ?_
  refine lv_istore_n (lv' := [(1, .int 0), (0, .int x)]) hx hb dX12_ones_1 rfl hl (by decide) rfl (fun ls hl => ?_)
  refine lv_iconst (v := 0) hx hb dX12_ones_2 (by decide) ?_
  refine lv_istore_n (lv' := [(2, .int 0), (1, .int 0), (0, .int x)]) hx hb dX12_ones_3 rfl hl (by decide) rfl (fun ls hl => ?_)
  have lp3 : ∀ (n4 : Nat) (H : Heap) (locs : List Loc) (ls : Array Slot) (y1 : Int32) (y2 : Int32), (10 < y1.toInt + (n4 : Int)) → (kb 0 y1 10) → (kb 0 y2 10) → (y2.toInt ≤ y1.toInt) → va_S (fun _ => False) s.heap H locs → lv_has ls 3 [(2, .int y1), (1, .int y2), (0, .int x)] → W p l e (rmD 1 0 0) s m ([.int x] : List Value).toArray below meth c H locs 0 0 (kQn (fun v => kb 0 v 10) below ([.int x] : List Value).toArray s) (F0 m 4 ls []) := by
    intro n4
    induction n4 with
    | zero =>
      intro   H locs ls y1 y2 hmlp3 b5 b6 hvlp3_0 hS hl
      exact (by have h1 := b5.2; have h2 := hmlp3; omega : False).elim
    | succ n4 ihlp3 =>
      intro   H locs ls y1 y2 hmlp3 b5 b6 hvlp3_0 hS hl
      refine lv_iload_n hx hb dX12_ones_4 rfl (lv_at hl 0 rfl) ?_
      refine lv_bipush (v := 10) hx hb dX12_ones_5 (by decide) ?_
      refine lv_icmp_ge (tgt := 24) hx hb dX12_ones_7 (by decide) (fun c7 => ?_) (fun c7 => ?_)
      · have h8 := (kc_le c7)
        have b9 : kb 10 y1 10 := kr_le2 h8 kc_10 b5
        refine lv_iload_n hx hb dX12_ones_24 rfl (lv_at hl 1 rfl) ?_
        exact kN_ret (v := y2) hx hb hr hlocks rfl hS dX12_ones_25 b6
      · have h10 := (kc_nle c7)
        have b11 : kb 0 y1 9 := kr_lt1 h10 b5 kc_10 (by decide)
        have b12 : kb 0 y2 9 := ⟨b6.1, by have h1 := hvlp3_0; have h2 := b11.2; omega⟩
        refine lv_iload_n hx hb dX12_ones_10 rfl (lv_at hl 1 rfl) ?_
        refine lv_iload_n hx hb dX12_ones_11 rfl (lv_at hl 2 rfl) ?_
        refine lv_iload_n hx hb dX12_ones_12 rfl (lv_at hl 0 rfl) ?_
        refine lv_ishr hx hb dX12_ones_13 ?_
        refine lv_topi (fun t13 et13 => ?_)
        refine lv_iconst (v := 1) hx hb dX12_ones_14 (by decide) ?_
        refine lv_iand hx hb dX12_ones_15 ?_
        refine lv_topi (fun t14 et14 => ?_)
        have b15 : kb 0 t14 1 := kb_eq et14 (kb_and 1 (by decide) (by decide))
        refine lv_iadd hx hb dX12_ones_16 ?_
        refine lv_topi (fun t16 et16 => ?_)
        have b17 : kb 0 t16 10 := kb_eq et16 (kb_add b12 b15 (by decide) (by decide))
        have qt16 : t16.toInt = y2.toInt + t14.toInt := by rw [et16]; exact kt_add b12 b15 (by decide) (by decide)
        refine lv_istore_n (lv' := [(1, .int t16), (2, .int y1), (0, .int x)]) hx hb dX12_ones_17 rfl hl (by decide) rfl (fun ls hl => ?_)
        obtain ⟨t18, et18⟩ : ∃ z : Int32, z = y1 + Int32.ofInt 1 := ⟨_, rfl⟩
        have qt18 : t18.toInt = y1.toInt + 1 := by rw [et18]; exact km_inc b11 (by decide) (by decide)
        have b19 : kb 1 t18 10 := kb_inc (k := 1) qt18 b11
        refine lv_iinc (v := t18) (lv' := [(2, .int t18), (1, .int t16), (0, .int x)]) hx hb dX12_ones_18 hl (k := 1) rfl et18.symm (by decide) rfl (fun ls hl => ?_)
        refine lv_goto (tgt := 4) hx hb dX12_ones_21 (by decide) ?_
        exact ihlp3  _ _ _ t18 t16 (km_up hmlp3 qt18) (kb_w b19 (by decide) (by decide)) b17 (by have h1 := hvlp3_0; have h2 := b15.2; omega) hS (lv_sub hl [0, 1, 2] rfl)
  exact lp3 (11)  _ _ _ 0 0 (by have h1 := (kc_0); unfold kb at h1; omega) (kb_w kc_0 (by decide) (by decide)) (kb_w kc_0 (by decide) (by decide)) (by decide +kernel) hS (lv_sub hl [0, 1, 2] rfl)
set_option maxHeartbeats 4000000 in
set_option maxRecDepth 100000 in
theorem m_isPart  (l : Launch) {D : va_G} {K : Nat → ClassId} (o : Nat) (r : Nat → Nat) (f : Nat → Int32) (a : Nat → Nat → Int32) (g : Nat → Int64) (hI : mI f a) (x : Int32)    : kI l yX12_isPart (Cond.code yX12_isPart cX12_isPart 2 (some .boolean) :: kG) (rmD 2 0 0) D (tysK K) [.ref o, .int x] (mW K o r f a g) (fun v (_ : Unit) => kb 0 v 1 ∧ (¬ v = 0 → 0 ≤ x.toInt ∧ x.toInt ≤ (a 2 102).toInt - 1) ∧ (v = 0 → ¬ (0 ≤ x.toInt ∧ x.toInt ≤ (a 2 102).toInt - 1))) (fun _ => mW K o r f a g) 0 0 := by
  refine kI.of (cc := cX12_isPart) (maxL := 2) (ret := (some .boolean)) (by decide) rfl (Nat.le_of_ble_eq_true rfl) ?_
  intro p e s m below meth c A hx hb hr hml hown hts hlocks hnm hK hP hD hS hA ls hl
  have hg : ∀ w ∈ kG, w.before _ s = true := fun w h => hts w (List.mem_cons_of_mem _ h)
  have hown : s.vm.findClass RX12 = some m.cls := hown
  have hl : lv_has ls 2 [(0, .ref o), (1, .int x)] := hl
  refine lv_iload_n hx hb dX12_isPart_0 rfl (lv_at hl 1 rfl) ?_
  refine lv_iconst (v := 0) hx hb dX12_isPart_1 (by decide) ?_
  refine lv_aload_n hx hb dX12_isPart_2 rfl (lv_at hl 0 rfl) ?_
  refine va_get (D := D) (ci := 12) (v := .ref (r 2)) (C := RX12) (T := TX12) (N := 48) hx hb hg inC12 hown hK hP 0 rfl rfl 2 (by decide) (hg _ wt5_162) (fun _ h9 => h9) rfl dX12_isPart_3 ?_
  refine lv_bipush (v := 102) hx hb dX12_isPart_6 (by decide) ?_
  refine va_iald hx hb hK hP 2 0 rfl rfl (kb_in kc_102 (by decide) (by decide)) dX12_isPart_8 ?_
  refine lv_topi (fun t1 et1 => ?_)
  rw [cl_102] at et1
  have b2 : kb 0 t1 10 := kb_eq et1 (aI_at hI.2.1 2 102 (by decide) (by decide))
  refine lv_iconst (v := 1) hx hb dX12_isPart_9 (by decide) ?_
  refine lv_isub hx hb dX12_isPart_10 ?_
  refine lv_topi (fun t3 et3 => ?_)
  have b4 : kb (-1) t3 9 := kb_eq et3 (kb_sub b2 kc_1 (by decide) (by decide))
  have qt3 : t3.toInt = t1.toInt - 1 := by rw [et3]; exact kt_subc b2 kc_1 (by decide) (by decide)
  refine kN.callS (As := [.int x, .int 0, .int t3]) (rest := []) ⟨hx, hb, hml, hown, hg⟩ (m_lies l x 0 t3 ) (va_cwS 3 hg (kgS wt6_69 wt6_70 wt1_14 wt6_71) rfl rfl rfl (by decide +kernel) ⟨by decide, by decide⟩) hP hS rfl hl.1 rfl (Nat.le_of_ble_eq_true rfl) dX12_isPart_11 ⟨Nat.le_refl _, Nat.le_refl _⟩ (fun v6 H locs hw5 hP hS => ?_)
  exact kI_ret (v := v6) hx hb hr hlocks (kb_bo hw5.1) hK hS dX12_isPart_14 () hP hD ⟨hw5.1, (fun q => by have h1 := mLies_ne (hw5.2 ▸ q); have e0 : (0 : Int32).toInt = 0 := (by decide +kernel); have e1 := congrArg Int32.toInt et1.symm; omega), (fun q => mLies_z (hw5.2.symm.trans q) (by decide +kernel) (by have e1 := congrArg Int32.toInt et1.symm; omega))⟩
set_option maxHeartbeats 4000000 in
set_option maxRecDepth 100000 in
theorem m_isBuilder  (l : Launch) {D : va_G} {K : Nat → ClassId} (o : Nat) (r : Nat → Nat) (f : Nat → Int32) (a : Nat → Nat → Int32) (g : Nat → Int64) (hI : mI f a) (x : Int32)    : kI l yX12_isBuilder (Cond.code yX12_isBuilder cX12_isBuilder 2 (some .boolean) :: kG) (rmD 2 0 0) D (tysK K) [.ref o, .int x] (mW K o r f a g) (fun v (_ : Unit) => kb 0 v 1 ∧ (¬ v = 0 → 0 ≤ x.toInt ∧ x.toInt ≤ (a 2 103).toInt - 1) ∧ (v = 0 → ¬ (0 ≤ x.toInt ∧ x.toInt ≤ (a 2 103).toInt - 1))) (fun _ => mW K o r f a g) 0 0 := by
  refine kI.of (cc := cX12_isBuilder) (maxL := 2) (ret := (some .boolean)) (by decide) rfl (Nat.le_of_ble_eq_true rfl) ?_
  intro p e s m below meth c A hx hb hr hml hown hts hlocks hnm hK hP hD hS hA ls hl
  have hg : ∀ w ∈ kG, w.before _ s = true := fun w h => hts w (List.mem_cons_of_mem _ h)
  have hown : s.vm.findClass RX12 = some m.cls := hown
  have hl : lv_has ls 2 [(0, .ref o), (1, .int x)] := hl
  refine lv_iload_n hx hb dX12_isBuilder_0 rfl (lv_at hl 1 rfl) ?_
  refine lv_iconst (v := 0) hx hb dX12_isBuilder_1 (by decide) ?_
  refine lv_aload_n hx hb dX12_isBuilder_2 rfl (lv_at hl 0 rfl) ?_
  refine va_get (D := D) (ci := 12) (v := .ref (r 2)) (C := RX12) (T := TX12) (N := 48) hx hb hg inC12 hown hK hP 0 rfl rfl 2 (by decide) (hg _ wt5_162) (fun _ h9 => h9) rfl dX12_isBuilder_3 ?_
  refine lv_bipush (v := 103) hx hb dX12_isBuilder_6 (by decide) ?_
  refine va_iald hx hb hK hP 2 0 rfl rfl (kb_in kc_103 (by decide) (by decide)) dX12_isBuilder_8 ?_
  refine lv_topi (fun t1 et1 => ?_)
  rw [cl_103] at et1
  have b2 : kb 0 t1 6 := kb_eq et1 (aI_at hI.2.1 2 103 (by decide) (by decide))
  refine lv_iconst (v := 1) hx hb dX12_isBuilder_9 (by decide) ?_
  refine lv_isub hx hb dX12_isBuilder_10 ?_
  refine lv_topi (fun t3 et3 => ?_)
  have b4 : kb (-1) t3 5 := kb_eq et3 (kb_sub b2 kc_1 (by decide) (by decide))
  have qt3 : t3.toInt = t1.toInt - 1 := by rw [et3]; exact kt_subc b2 kc_1 (by decide) (by decide)
  refine kN.callS (As := [.int x, .int 0, .int t3]) (rest := []) ⟨hx, hb, hml, hown, hg⟩ (m_lies l x 0 t3 ) (va_cwS 3 hg (kgS wt6_69 wt6_70 wt1_14 wt6_71) rfl rfl rfl (by decide +kernel) ⟨by decide, by decide⟩) hP hS rfl hl.1 rfl (Nat.le_of_ble_eq_true rfl) dX12_isBuilder_11 ⟨Nat.le_refl _, Nat.le_refl _⟩ (fun v6 H locs hw5 hP hS => ?_)
  exact kI_ret (v := v6) hx hb hr hlocks (kb_bo hw5.1) hK hS dX12_isBuilder_14 () hP hD ⟨hw5.1, (fun q => by have h1 := mLies_ne (hw5.2 ▸ q); have e0 : (0 : Int32).toInt = 0 := (by decide +kernel); have e1 := congrArg Int32.toInt et1.symm; omega), (fun q => mLies_z (hw5.2.symm.trans q) (by decide +kernel) (by have e1 := congrArg Int32.toInt et1.symm; omega))⟩
