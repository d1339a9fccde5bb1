/-! the class's reading: the tokens that stand -/
def xQ (f : Nat → Int32) (a : Nat → Nat → Int32) (N : Nat) (ob : Bool) (T pl : Nat → Int32) : Prop := (f 1603).toInt = (N : Int) + 1 ∧ N ≤ 400 ∧ f 1606 = (if ob = true then 1 else 0) ∧ (∀ k, k ≤ N → a 56 k = T k) ∧ (∀ k, k ≤ N → a 57 k = pl k) ∧ (∀ k, N ≤ k → T k = 4000) ∧ ∀ k, kb 0 (T k) 4000
section XQ
variable {f f' : Nat → Int32} {a a' : Nat → Nat → Int32} {N i : Nat} {ob : Bool} {T pl : Nat → Int32}
theorem xQ_f {k : Nat} {v : Int32} (h : xQ f a N ob T pl) (n1 : 1603 ≠ k) (n2 : 1606 ≠ k) : xQ (upd f k v) a N ob T pl := ⟨by rw [pk_un n1]; exact h.1, h.2.1, by rw [pk_un n2]; exact h.2.2.1, h.2.2.2⟩
theorem xQ_a {s : Nat} {u : Nat → Int32} (h : xQ f a N ob T pl) (n1 : 56 ≠ s) (n2 : 57 ≠ s) : xQ f (va_up a s u) N ob T pl := by
  have e1 : va_up a s u 56 = a 56 := by unfold va_up; rw [if_neg n1]
  have e2 : va_up a s u 57 = a 57 := by unfold va_up; rw [if_neg n2]
  unfold xQ
  rw [e1, e2]
  exact h
theorem xQ_c (h : xQ f a N ob T pl) (e1 : f' 1603 = f 1603) (e2 : f' 1606 = f 1606) (e : a' 56 = a 56 ∧ a' 57 = a 57) : xQ f' a' N ob T pl := by
  unfold xQ
  rw [e1, e2, e.1, e.2]
  exact h
theorem xQ_lt (h : xQ f a N ob T pl) (q : ¬ T i = 4000) : i < N := by
  by_cases w : i < N
  · exact w
  · exact absurd (h.2.2.2.2.2.1 i (by omega)) q
theorem k56_a {s : Nat} {u : Nat → Int32} (h : a' 56 = a 56 ∧ a' 57 = a 57) (n1 : 56 ≠ s) (n2 : 57 ≠ s) : va_up a' s u 56 = a 56 ∧ va_up a' s u 57 = a 57 := by
  have e1 : va_up a' s u 56 = a' 56 := by unfold va_up; rw [if_neg n1]
  have e2 : va_up a' s u 57 = a' 57 := by unfold va_up; rw [if_neg n2]
  rw [e1, e2]
  exact h
theorem xq_v {t : Int32} (h : t = T i) {k : Int32} (e : T i = k) : t = k := h.trans e
end XQ
theorem kb_pos {x : Int32} {i N : Nat} (h : i ≤ N) (hN : N ≤ 400) (e : x.toInt = (i : Int)) : kb 0 x 400 := ⟨by omega, by omega⟩
theorem kb_pos1 {x : Int32} {i N : Nat} (h : i < N) (hN : N ≤ 400) (e : x.toInt = (i : Int)) : kb 0 x 399 := ⟨by omega, by omega⟩
theorem ne_4000 {t k : Int32} (e : t = k) (h : ¬ k = 4000) : ¬ t = 4000 := fun q => h (e.symm.trans q)
/-- what a law's word is: pLf -/
theorem lfx_n {ob : Bool} {t : Int32} (h : kb 0 t 1000) : pLf ob t = true ∧ pNm ob t = false := lf_n (c := 50) (v := t) (t := t) (Or.inr (Or.inr (Or.inl ⟨rfl, h.1, Or.inl ⟨h.2, rfl⟩⟩))) rfl h.2
theorem lfx_l {t : Int32} (h : kb 2008 t 2017) : pLf false t = true ∧ pNm false t = false := by
  refine ⟨?_, rfl⟩
  unfold pLf
  rw [if_neg (by decide), pIn_t (lo := 2008) (hi := 2017) h, Bool.or_true]
theorem lfx_fl {t : Int32} (h : ¬ kb 0 t 1000) (q : ¬ kb 2008 t 2017) : pLf false t = false := by
  unfold pLf
  rw [if_neg (by decide), pIn_f (lo := 2008) (hi := 2017) q, pIn_f (lo := 0) (hi := 1000) h]
  rfl
theorem lfx_fo {t : Int32} (h : ¬ kb 0 t 1000) (n1 : ¬ t = 2014) (n2 : ¬ t = 2010) (n3 : ¬ t = 2027) (n4 : ¬ t = 2016) (n5 : ¬ t = 2024) (n6 : ¬ t = 2025) (n7 : ¬ t = 2026) : pLf true t = false := by
  unfold pLf
  rw [if_pos rfl, pIn_f (lo := 0) (hi := 1000) h, decide_eq_false n1, decide_eq_false n2, decide_eq_false n3, decide_eq_false n4, decide_eq_false n5, decide_eq_false n6, decide_eq_false n7]
  rfl
theorem pi_2e {o : Bool} {T : Nat → Int32} {d i n : Nat} (h : ¬ T i = 3091) (h2 : n = 50) : pG o T d 2 i n (false, i, 0) := by
  cases q : pLf o (T i) with
  | false => exact pi_2x h q
  | true => exact pi_2m h q h2
theorem c_eq {t x : Int32} {k : Int} (h : t.toInt = k) (e : x.toInt = k) : t = x := Int32.toInt_inj.mp (h.trans e.symm)
theorem n11 {t : Int32} (h : ¬ kb 2004 t 2007) : ¬ (t = 2004 ∨ t = 2005 ∨ t = 2006) ∧ ¬ t = 2007 := by
  constructor
  · intro q
    rcases q with e | e | e <;> (rw [e] at h; exact h ⟨by decide +kernel, by decide +kernel⟩)
  · intro e
    rw [e] at h; exact h ⟨by decide +kernel, by decide +kernel⟩
theorem y11 {t : Int32} (h : kb 2004 t 2006) : t = 2004 ∨ t = 2005 ∨ t = 2006 := by
  have h1 := h.1
  have h2 := h.2
  have : t.toInt = 2004 ∨ t.toInt = 2005 ∨ t.toInt = 2006 := by omega
  rcases this with e | e | e
  · exact Or.inl (c_eq e (by decide +kernel))
  · exact Or.inr (Or.inl (c_eq e (by decide +kernel)))
  · exact Or.inr (Or.inr (c_eq e (by decide +kernel)))
theorem k11 {t : Int32} (h : kb 2004 t 2006) : ¬ t = 2007 := fun e => by
  have h2 := h.2
  rw [e] at h2
  exact absurd h2 (by decide +kernel)
theorem n13 {t : Int32} (h : ¬ kb 2018 t 2021) : ¬ t = 2018 ∧ ¬ (t = 2019 ∨ t = 2020) ∧ ¬ t = 2021 := by
  refine ⟨?_, ?_, ?_⟩
  · intro e
    rw [e] at h; exact h ⟨by decide +kernel, by decide +kernel⟩
  · intro q
    rcases q with e | e <;> (rw [e] at h; exact h ⟨by decide +kernel, by decide +kernel⟩)
  · intro e
    rw [e] at h; exact h ⟨by decide +kernel, by decide +kernel⟩
theorem y13 {t : Int32} (h : kb 2019 t 2020) : t = 2019 ∨ t = 2020 := by
  have h1 := h.1
  have h2 := h.2
  have : t.toInt = 2019 ∨ t.toInt = 2020 := by omega
  rcases this with e | e
  · exact Or.inl (c_eq e (by decide +kernel))
  · exact Or.inr (c_eq e (by decide +kernel))
theorem i_ne2 {t x : Int32} {l h : Int} (b : kb l t h) (q : x.toInt < l ∨ h < x.toInt) : ¬ t = x := fun e => by
  have h1 := b.1
  have h2 := b.2
  rw [e] at h1 h2
  omega
theorem kb_11 {x : Int32} (h : kb 1 x 1) : x = 1 := Int32.toInt_inj.mp (by have h1 := h.1; have h2 := h.2; have e : (1 : Int32).toInt = 1 := (by decide +kernel); omega)
theorem dX4_inHand_0 : decode cX4_inHand 0 = .ok (.aload_n 0, 1) := by decide +kernel
theorem dX4_inHand_1 : decode cX4_inHand 1 = .ok (.getfield 31, 3) := by decide +kernel
theorem dX4_inHand_4 : decode cX4_inHand 4 = .ok (.ifCond .lt 38, 3) := by decide +kernel
theorem dX4_inHand_7 : decode cX4_inHand 7 = .ok (.aload_n 0, 1) := by decide +kernel
theorem dX4_inHand_8 : decode cX4_inHand 8 = .ok (.getfield 31, 3) := by decide +kernel
theorem dX4_inHand_11 : decode cX4_inHand 11 = .ok (.aload_n 0, 1) := by decide +kernel
theorem dX4_inHand_12 : decode cX4_inHand 12 = .ok (.getfield 27, 3) := by decide +kernel
theorem dX4_inHand_15 : decode cX4_inHand 15 = .ok (.if_icmp .ge 27, 3) := by decide +kernel
theorem dX4_inHand_18 : decode cX4_inHand 18 = .ok (.aload_n 0, 1) := by decide +kernel
theorem dX4_inHand_19 : decode cX4_inHand 19 = .ok (.getfield 31, 3) := by decide +kernel
theorem dX4_inHand_22 : decode cX4_inHand 22 = .ok (.aload_n 0, 1) := by decide +kernel
theorem dX4_inHand_23 : decode cX4_inHand 23 = .ok (.getfield 20, 3) := by decide +kernel
theorem dX4_inHand_26 : decode cX4_inHand 26 = .ok (.arraylength, 1) := by decide +kernel
theorem dX4_inHand_27 : decode cX4_inHand 27 = .ok (.if_icmp .ge 15, 3) := by decide +kernel
theorem dX4_inHand_30 : decode cX4_inHand 30 = .ok (.aload_n 0, 1) := by decide +kernel
theorem dX4_inHand_31 : decode cX4_inHand 31 = .ok (.getfield 20, 3) := by decide +kernel
theorem dX4_inHand_34 : decode cX4_inHand 34 = .ok (.aload_n 0, 1) := by decide +kernel
theorem dX4_inHand_35 : decode cX4_inHand 35 = .ok (.getfield 31, 3) := by decide +kernel
theorem dX4_inHand_38 : decode cX4_inHand 38 = .ok (.iaload, 1) := by decide +kernel
theorem dX4_inHand_39 : decode cX4_inHand 39 = .ok (.goto 6, 3) := by decide +kernel
theorem dX4_inHand_42 : decode cX4_inHand 42 = .ok (.sipush 4000, 3) := by decide +kernel
theorem dX4_inHand_45 : decode cX4_inHand 45 = .ok (.ireturn, 1) := by decide +kernel
theorem dX4_placeInHand_0 : decode cX4_placeInHand 0 = .ok (.aload_n 0, 1) := by decide +kernel
theorem dX4_placeInHand_1 : decode cX4_placeInHand 1 = .ok (.getfield 31, 3) := by decide +kernel
theorem dX4_placeInHand_4 : decode cX4_placeInHand 4 = .ok (.ifCond .lt 38, 3) := by decide +kernel
theorem dX4_placeInHand_7 : decode cX4_placeInHand 7 = .ok (.aload_n 0, 1) := by decide +kernel
theorem dX4_placeInHand_8 : decode cX4_placeInHand 8 = .ok (.getfield 31, 3) := by decide +kernel
theorem dX4_placeInHand_11 : decode cX4_placeInHand 11 = .ok (.aload_n 0, 1) := by decide +kernel
theorem dX4_placeInHand_12 : decode cX4_placeInHand 12 = .ok (.getfield 27, 3) := by decide +kernel
theorem dX4_placeInHand_15 : decode cX4_placeInHand 15 = .ok (.if_icmp .ge 27, 3) := by decide +kernel
theorem dX4_placeInHand_18 : decode cX4_placeInHand 18 = .ok (.aload_n 0, 1) := by decide +kernel
theorem dX4_placeInHand_19 : decode cX4_placeInHand 19 = .ok (.getfield 31, 3) := by decide +kernel
theorem dX4_placeInHand_22 : decode cX4_placeInHand 22 = .ok (.aload_n 0, 1) := by decide +kernel
theorem dX4_placeInHand_23 : decode cX4_placeInHand 23 = .ok (.getfield 24, 3) := by decide +kernel
theorem dX4_placeInHand_26 : decode cX4_placeInHand 26 = .ok (.arraylength, 1) := by decide +kernel
theorem dX4_placeInHand_27 : decode cX4_placeInHand 27 = .ok (.if_icmp .ge 15, 3) := by decide +kernel
theorem dX4_placeInHand_30 : decode cX4_placeInHand 30 = .ok (.aload_n 0, 1) := by decide +kernel
theorem dX4_placeInHand_31 : decode cX4_placeInHand 31 = .ok (.getfield 24, 3) := by decide +kernel
theorem dX4_placeInHand_34 : decode cX4_placeInHand 34 = .ok (.aload_n 0, 1) := by decide +kernel
theorem dX4_placeInHand_35 : decode cX4_placeInHand 35 = .ok (.getfield 31, 3) := by decide +kernel
theorem dX4_placeInHand_38 : decode cX4_placeInHand 38 = .ok (.iaload, 1) := by decide +kernel
theorem dX4_placeInHand_39 : decode cX4_placeInHand 39 = .ok (.goto 4, 3) := by decide +kernel
theorem dX4_placeInHand_42 : decode cX4_placeInHand 42 = .ok (.iconst 0, 1) := by decide +kernel
theorem dX4_placeInHand_43 : decode cX4_placeInHand 43 = .ok (.ireturn, 1) := by decide +kernel
theorem dX4_readRule_0 : decode cX4_readRule 0 = .ok (.aload_n 0, 1) := by decide +kernel
theorem dX4_readRule_1 : decode cX4_readRule 1 = .ok (.invokevirtual 65, 3) := by decide +kernel
theorem dX4_readRule_4 : decode cX4_readRule 4 = .ok (.sipush 2004, 3) := by decide +kernel
theorem dX4_readRule_7 : decode cX4_readRule 7 = .ok (.isub, 1) := by decide +kernel
theorem dX4_readRule_8 : decode cX4_readRule 8 = .ok (.istore_n 1, 1) := by decide +kernel
theorem dX4_readRule_9 : decode cX4_readRule 9 = .ok (.iload_n 1, 1) := by decide +kernel
theorem dX4_readRule_10 : decode cX4_readRule 10 = .ok (.ifCond .lt 19, 3) := by decide +kernel
theorem dX4_readRule_13 : decode cX4_readRule 13 = .ok (.iload_n 1, 1) := by decide +kernel
theorem dX4_readRule_14 : decode cX4_readRule 14 = .ok (.iconst 4, 1) := by decide +kernel
theorem dX4_readRule_15 : decode cX4_readRule 15 = .ok (.if_icmp .ge 14, 3) := by decide +kernel
theorem dX4_readRule_18 : decode cX4_readRule 18 = .ok (.aload_n 0, 1) := by decide +kernel
theorem dX4_readRule_19 : decode cX4_readRule 19 = .ok (.getfield 16, 3) := by decide +kernel
theorem dX4_readRule_22 : decode cX4_readRule 22 = .ok (.iload_n 1, 1) := by decide +kernel
theorem dX4_readRule_23 : decode cX4_readRule 23 = .ok (.invokevirtual 104, 3) := by decide +kernel
theorem dX4_readRule_26 : decode cX4_readRule 26 = .ok (.ifCond .ne 5, 3) := by decide +kernel
theorem dX4_readRule_29 : decode cX4_readRule 29 = .ok (.iconst 0, 1) := by decide +kernel
theorem dX4_readRule_30 : decode cX4_readRule 30 = .ok (.ireturn, 1) := by decide +kernel
theorem dX4_readRule_31 : decode cX4_readRule 31 = .ok (.aload_n 0, 1) := by decide +kernel
theorem dX4_readRule_32 : decode cX4_readRule 32 = .ok (.dup, 1) := by decide +kernel
theorem dX4_readRule_33 : decode cX4_readRule 33 = .ok (.getfield 31, 3) := by decide +kernel
theorem dX4_readRule_36 : decode cX4_readRule 36 = .ok (.iconst 1, 1) := by decide +kernel
theorem dX4_readRule_37 : decode cX4_readRule 37 = .ok (.iadd, 1) := by decide +kernel
theorem dX4_readRule_38 : decode cX4_readRule 38 = .ok (.putfield 31, 3) := by decide +kernel
theorem dX4_readRule_41 : decode cX4_readRule 41 = .ok (.iload_n 1, 1) := by decide +kernel
theorem dX4_readRule_42 : decode cX4_readRule 42 = .ok (.iconst 3, 1) := by decide +kernel
theorem dX4_readRule_43 : decode cX4_readRule 43 = .ok (.if_icmp .eq 13, 3) := by decide +kernel
theorem dX4_readRule_46 : decode cX4_readRule 46 = .ok (.aload_n 0, 1) := by decide +kernel
theorem dX4_readRule_47 : decode cX4_readRule 47 = .ok (.iconst 0, 1) := by decide +kernel
theorem dX4_readRule_48 : decode cX4_readRule 48 = .ok (.invokevirtual 107, 3) := by decide +kernel
theorem dX4_readRule_51 : decode cX4_readRule 51 = .ok (.ifCond .ne 5, 3) := by decide +kernel
theorem dX4_readRule_54 : decode cX4_readRule 54 = .ok (.iconst 0, 1) := by decide +kernel
theorem dX4_readRule_55 : decode cX4_readRule 55 = .ok (.ireturn, 1) := by decide +kernel
theorem dX4_readRule_56 : decode cX4_readRule 56 = .ok (.aload_n 0, 1) := by decide +kernel
theorem dX4_readRule_57 : decode cX4_readRule 57 = .ok (.getfield 16, 3) := by decide +kernel
theorem dX4_readRule_60 : decode cX4_readRule 60 = .ok (.iconst 0, 1) := by decide +kernel
theorem dX4_readRule_61 : decode cX4_readRule 61 = .ok (.invokevirtual 72, 3) := by decide +kernel
theorem dX4_readRule_64 : decode cX4_readRule 64 = .ok (.aload_n 0, 1) := by decide +kernel
theorem dX4_readRule_65 : decode cX4_readRule 65 = .ok (.getfield 16, 3) := by decide +kernel
theorem dX4_readRule_68 : decode cX4_readRule 68 = .ok (.iconst 1, 1) := by decide +kernel
theorem dX4_readRule_69 : decode cX4_readRule 69 = .ok (.invokevirtual 72, 3) := by decide +kernel
theorem dX4_readRule_72 : decode cX4_readRule 72 = .ok (.iconst 1, 1) := by decide +kernel
theorem dX4_readRule_73 : decode cX4_readRule 73 = .ok (.ireturn, 1) := by decide +kernel
theorem dX4_readOrder_0 : decode cX4_readOrder 0 = .ok (.aload_n 0, 1) := by decide +kernel
theorem dX4_readOrder_1 : decode cX4_readOrder 1 = .ok (.invokevirtual 65, 3) := by decide +kernel
theorem dX4_readOrder_4 : decode cX4_readOrder 4 = .ok (.sipush 2018, 3) := by decide +kernel
theorem dX4_readOrder_7 : decode cX4_readOrder 7 = .ok (.isub, 1) := by decide +kernel
theorem dX4_readOrder_8 : decode cX4_readOrder 8 = .ok (.istore_n 1, 1) := by decide +kernel
theorem dX4_readOrder_9 : decode cX4_readOrder 9 = .ok (.iload_n 1, 1) := by decide +kernel
theorem dX4_readOrder_10 : decode cX4_readOrder 10 = .ok (.ifCond .lt 19, 3) := by decide +kernel
theorem dX4_readOrder_13 : decode cX4_readOrder 13 = .ok (.iload_n 1, 1) := by decide +kernel
theorem dX4_readOrder_14 : decode cX4_readOrder 14 = .ok (.iconst 4, 1) := by decide +kernel
theorem dX4_readOrder_15 : decode cX4_readOrder 15 = .ok (.if_icmp .ge 14, 3) := by decide +kernel
theorem dX4_readOrder_18 : decode cX4_readOrder 18 = .ok (.aload_n 0, 1) := by decide +kernel
theorem dX4_readOrder_19 : decode cX4_readOrder 19 = .ok (.getfield 16, 3) := by decide +kernel
theorem dX4_readOrder_22 : decode cX4_readOrder 22 = .ok (.iload_n 1, 1) := by decide +kernel
theorem dX4_readOrder_23 : decode cX4_readOrder 23 = .ok (.invokevirtual 104, 3) := by decide +kernel
theorem dX4_readOrder_26 : decode cX4_readOrder 26 = .ok (.ifCond .ne 5, 3) := by decide +kernel
theorem dX4_readOrder_29 : decode cX4_readOrder 29 = .ok (.iconst 0, 1) := by decide +kernel
theorem dX4_readOrder_30 : decode cX4_readOrder 30 = .ok (.ireturn, 1) := by decide +kernel
theorem dX4_readOrder_31 : decode cX4_readOrder 31 = .ok (.aload_n 0, 1) := by decide +kernel
theorem dX4_readOrder_32 : decode cX4_readOrder 32 = .ok (.dup, 1) := by decide +kernel
theorem dX4_readOrder_33 : decode cX4_readOrder 33 = .ok (.getfield 31, 3) := by decide +kernel
theorem dX4_readOrder_36 : decode cX4_readOrder 36 = .ok (.iconst 1, 1) := by decide +kernel
theorem dX4_readOrder_37 : decode cX4_readOrder 37 = .ok (.iadd, 1) := by decide +kernel
theorem dX4_readOrder_38 : decode cX4_readOrder 38 = .ok (.putfield 31, 3) := by decide +kernel
theorem dX4_readOrder_41 : decode cX4_readOrder 41 = .ok (.iload_n 1, 1) := by decide +kernel
theorem dX4_readOrder_42 : decode cX4_readOrder 42 = .ok (.iconst 3, 1) := by decide +kernel
theorem dX4_readOrder_43 : decode cX4_readOrder 43 = .ok (.if_icmp .eq 13, 3) := by decide +kernel
theorem dX4_readOrder_46 : decode cX4_readOrder 46 = .ok (.aload_n 0, 1) := by decide +kernel
theorem dX4_readOrder_47 : decode cX4_readOrder 47 = .ok (.iconst 0, 1) := by decide +kernel
theorem dX4_readOrder_48 : decode cX4_readOrder 48 = .ok (.invokevirtual 107, 3) := by decide +kernel
theorem dX4_readOrder_51 : decode cX4_readOrder 51 = .ok (.ifCond .ne 5, 3) := by decide +kernel
theorem dX4_readOrder_54 : decode cX4_readOrder 54 = .ok (.iconst 0, 1) := by decide +kernel
theorem dX4_readOrder_55 : decode cX4_readOrder 55 = .ok (.ireturn, 1) := by decide +kernel
theorem dX4_readOrder_56 : decode cX4_readOrder 56 = .ok (.aload_n 0, 1) := by decide +kernel
theorem dX4_readOrder_57 : decode cX4_readOrder 57 = .ok (.getfield 16, 3) := by decide +kernel
theorem dX4_readOrder_60 : decode cX4_readOrder 60 = .ok (.iconst 0, 1) := by decide +kernel
theorem dX4_readOrder_61 : decode cX4_readOrder 61 = .ok (.invokevirtual 72, 3) := by decide +kernel
theorem dX4_readOrder_64 : decode cX4_readOrder 64 = .ok (.iload_n 1, 1) := by decide +kernel
theorem dX4_readOrder_65 : decode cX4_readOrder 65 = .ok (.ifCond .ne 35, 3) := by decide +kernel
theorem dX4_readOrder_68 : decode cX4_readOrder 68 = .ok (.aload_n 0, 1) := by decide +kernel
theorem dX4_readOrder_69 : decode cX4_readOrder 69 = .ok (.invokevirtual 65, 3) := by decide +kernel
theorem dX4_readOrder_72 : decode cX4_readOrder 72 = .ok (.sipush 2022, 3) := by decide +kernel
theorem dX4_readOrder_75 : decode cX4_readOrder 75 = .ok (.if_icmp .eq 5, 3) := by decide +kernel
theorem dX4_readOrder_78 : decode cX4_readOrder 78 = .ok (.iconst 0, 1) := by decide +kernel
theorem dX4_readOrder_79 : decode cX4_readOrder 79 = .ok (.ireturn, 1) := by decide +kernel
theorem dX4_readOrder_80 : decode cX4_readOrder 80 = .ok (.aload_n 0, 1) := by decide +kernel
theorem dX4_readOrder_81 : decode cX4_readOrder 81 = .ok (.dup, 1) := by decide +kernel
theorem dX4_readOrder_82 : decode cX4_readOrder 82 = .ok (.getfield 31, 3) := by decide +kernel
theorem dX4_readOrder_85 : decode cX4_readOrder 85 = .ok (.iconst 1, 1) := by decide +kernel
theorem dX4_readOrder_86 : decode cX4_readOrder 86 = .ok (.iadd, 1) := by decide +kernel
theorem dX4_readOrder_87 : decode cX4_readOrder 87 = .ok (.putfield 31, 3) := by decide +kernel
theorem dX4_readOrder_90 : decode cX4_readOrder 90 = .ok (.aload_n 0, 1) := by decide +kernel
theorem dX4_readOrder_91 : decode cX4_readOrder 91 = .ok (.iconst 0, 1) := by decide +kernel
theorem dX4_readOrder_92 : decode cX4_readOrder 92 = .ok (.invokevirtual 107, 3) := by decide +kernel
theorem dX4_readOrder_95 : decode cX4_readOrder 95 = .ok (.ifCond .ne 5, 3) := by decide +kernel
theorem dX4_readOrder_98 : decode cX4_readOrder 98 = .ok (.iconst 0, 1) := by decide +kernel
theorem dX4_readOrder_99 : decode cX4_readOrder 99 = .ok (.ireturn, 1) := by decide +kernel
theorem dX4_readOrder_100 : decode cX4_readOrder 100 = .ok (.aload_n 0, 1) := by decide +kernel
theorem dX4_readOrder_101 : decode cX4_readOrder 101 = .ok (.getfield 16, 3) := by decide +kernel
theorem dX4_readOrder_104 : decode cX4_readOrder 104 = .ok (.iconst 1, 1) := by decide +kernel
theorem dX4_readOrder_105 : decode cX4_readOrder 105 = .ok (.invokevirtual 72, 3) := by decide +kernel
theorem dX4_readOrder_108 : decode cX4_readOrder 108 = .ok (.aload_n 0, 1) := by decide +kernel
theorem dX4_readOrder_109 : decode cX4_readOrder 109 = .ok (.invokevirtual 110, 3) := by decide +kernel
theorem dX4_readOrder_112 : decode cX4_readOrder 112 = .ok (.ireturn, 1) := by decide +kernel
theorem dX4_readTimes_0 : decode cX4_readTimes 0 = .ok (.aload_n 0, 1) := by decide +kernel
theorem dX4_readTimes_1 : decode cX4_readTimes 1 = .ok (.invokevirtual 65, 3) := by decide +kernel
theorem dX4_readTimes_4 : decode cX4_readTimes 4 = .ok (.sipush 2023, 3) := by decide +kernel
theorem dX4_readTimes_7 : decode cX4_readTimes 7 = .ok (.if_icmp .eq 5, 3) := by decide +kernel
theorem dX4_readTimes_10 : decode cX4_readTimes 10 = .ok (.iconst 1, 1) := by decide +kernel
theorem dX4_readTimes_11 : decode cX4_readTimes 11 = .ok (.ireturn, 1) := by decide +kernel
theorem dX4_readTimes_12 : decode cX4_readTimes 12 = .ok (.aload_n 0, 1) := by decide +kernel
theorem dX4_readTimes_13 : decode cX4_readTimes 13 = .ok (.dup, 1) := by decide +kernel
theorem dX4_readTimes_14 : decode cX4_readTimes 14 = .ok (.getfield 31, 3) := by decide +kernel
theorem dX4_readTimes_17 : decode cX4_readTimes 17 = .ok (.iconst 1, 1) := by decide +kernel
theorem dX4_readTimes_18 : decode cX4_readTimes 18 = .ok (.iadd, 1) := by decide +kernel
theorem dX4_readTimes_19 : decode cX4_readTimes 19 = .ok (.putfield 31, 3) := by decide +kernel
theorem dX4_readTimes_22 : decode cX4_readTimes 22 = .ok (.aload_n 0, 1) := by decide +kernel
theorem dX4_readTimes_23 : decode cX4_readTimes 23 = .ok (.invokevirtual 65, 3) := by decide +kernel
theorem dX4_readTimes_26 : decode cX4_readTimes 26 = .ok (.istore_n 1, 1) := by decide +kernel
theorem dX4_readTimes_27 : decode cX4_readTimes 27 = .ok (.iload_n 1, 1) := by decide +kernel
theorem dX4_readTimes_28 : decode cX4_readTimes 28 = .ok (.iconst 1, 1) := by decide +kernel
theorem dX4_readTimes_29 : decode cX4_readTimes 29 = .ok (.if_icmp .lt 9, 3) := by decide +kernel
theorem dX4_readTimes_32 : decode cX4_readTimes 32 = .ok (.iload_n 1, 1) := by decide +kernel
theorem dX4_readTimes_33 : decode cX4_readTimes 33 = .ok (.bipush 20, 2) := by decide +kernel
theorem dX4_readTimes_35 : decode cX4_readTimes 35 = .ok (.if_icmp .le 5, 3) := by decide +kernel
theorem dX4_readTimes_38 : decode cX4_readTimes 38 = .ok (.iconst 0, 1) := by decide +kernel
theorem dX4_readTimes_39 : decode cX4_readTimes 39 = .ok (.ireturn, 1) := by decide +kernel
theorem dX4_readTimes_40 : decode cX4_readTimes 40 = .ok (.aload_n 0, 1) := by decide +kernel
theorem dX4_readTimes_41 : decode cX4_readTimes 41 = .ok (.dup, 1) := by decide +kernel
theorem dX4_readTimes_42 : decode cX4_readTimes 42 = .ok (.getfield 31, 3) := by decide +kernel
theorem dX4_readTimes_45 : decode cX4_readTimes 45 = .ok (.iconst 1, 1) := by decide +kernel
theorem dX4_readTimes_46 : decode cX4_readTimes 46 = .ok (.iadd, 1) := by decide +kernel
theorem dX4_readTimes_47 : decode cX4_readTimes 47 = .ok (.putfield 31, 3) := by decide +kernel
theorem dX4_readTimes_50 : decode cX4_readTimes 50 = .ok (.aload_n 0, 1) := by decide +kernel
theorem dX4_readTimes_51 : decode cX4_readTimes 51 = .ok (.getfield 16, 3) := by decide +kernel
theorem dX4_readTimes_54 : decode cX4_readTimes 54 = .ok (.iload_n 1, 1) := by decide +kernel
theorem dX4_readTimes_55 : decode cX4_readTimes 55 = .ok (.invokevirtual 113, 3) := by decide +kernel
theorem dX4_readTimes_58 : decode cX4_readTimes 58 = .ok (.iconst 1, 1) := by decide +kernel
theorem dX4_readTimes_59 : decode cX4_readTimes 59 = .ok (.ireturn, 1) := by decide +kernel
theorem dX4_readTest_0 : decode cX4_readTest 0 = .ok (.iconst (-1), 1) := by decide +kernel
theorem dX4_readTest_1 : decode cX4_readTest 1 = .ok (.istore_n 2, 1) := by decide +kernel
theorem dX4_readTest_2 : decode cX4_readTest 2 = .ok (.iconst 0, 1) := by decide +kernel
theorem dX4_readTest_3 : decode cX4_readTest 3 = .ok (.istore_n 3, 1) := by decide +kernel
theorem dX4_readTest_4 : decode cX4_readTest 4 = .ok (.iload_n 3, 1) := by decide +kernel
theorem dX4_readTest_5 : decode cX4_readTest 5 = .ok (.sipush 400, 3) := by decide +kernel
theorem dX4_readTest_8 : decode cX4_readTest 8 = .ok (.if_icmp .ge 122, 3) := by decide +kernel
theorem dX4_readTest_11 : decode cX4_readTest 11 = .ok (.iconst (-1), 1) := by decide +kernel
theorem dX4_readTest_12 : decode cX4_readTest 12 = .ok (.istore 4, 2) := by decide +kernel
theorem dX4_readTest_14 : decode cX4_readTest 14 = .ok (.iconst 0, 1) := by decide +kernel
theorem dX4_readTest_15 : decode cX4_readTest 15 = .ok (.istore 5, 2) := by decide +kernel
theorem dX4_readTest_17 : decode cX4_readTest 17 = .ok (.iload 5, 2) := by decide +kernel
theorem dX4_readTest_19 : decode cX4_readTest 19 = .ok (.sipush 400, 3) := by decide +kernel
theorem dX4_readTest_22 : decode cX4_readTest 22 = .ok (.if_icmp .ge 62, 3) := by decide +kernel
theorem dX4_readTest_25 : decode cX4_readTest 25 = .ok (.aload_n 0, 1) := by decide +kernel
theorem dX4_readTest_26 : decode cX4_readTest 26 = .ok (.iload_n 1, 1) := by decide +kernel
theorem dX4_readTest_27 : decode cX4_readTest 27 = .ok (.invokevirtual 116, 3) := by decide +kernel
theorem dX4_readTest_30 : decode cX4_readTest 30 = .ok (.ifCond .ne 5, 3) := by decide +kernel
theorem dX4_readTest_33 : decode cX4_readTest 33 = .ok (.iconst 0, 1) := by decide +kernel
theorem dX4_readTest_34 : decode cX4_readTest 34 = .ok (.ireturn, 1) := by decide +kernel
theorem dX4_readTest_35 : decode cX4_readTest 35 = .ok (.aload_n 0, 1) := by decide +kernel
theorem dX4_readTest_36 : decode cX4_readTest 36 = .ok (.getfield 16, 3) := by decide +kernel
theorem dX4_readTest_39 : decode cX4_readTest 39 = .ok (.iload 4, 2) := by decide +kernel
theorem dX4_readTest_41 : decode cX4_readTest 41 = .ok (.invokevirtual 119, 3) := by decide +kernel
theorem dX4_readTest_44 : decode cX4_readTest 44 = .ok (.aload_n 0, 1) := by decide +kernel
theorem dX4_readTest_45 : decode cX4_readTest 45 = .ok (.invokevirtual 65, 3) := by decide +kernel
theorem dX4_readTest_48 : decode cX4_readTest 48 = .ok (.sipush 2001, 3) := by decide +kernel
theorem dX4_readTest_51 : decode cX4_readTest 51 = .ok (.if_icmp .eq 6, 3) := by decide +kernel
theorem dX4_readTest_54 : decode cX4_readTest 54 = .ok (.goto 30, 3) := by decide +kernel
theorem dX4_readTest_57 : decode cX4_readTest 57 = .ok (.aload_n 0, 1) := by decide +kernel
theorem dX4_readTest_58 : decode cX4_readTest 58 = .ok (.dup, 1) := by decide +kernel
theorem dX4_readTest_59 : decode cX4_readTest 59 = .ok (.getfield 31, 3) := by decide +kernel
theorem dX4_readTest_62 : decode cX4_readTest 62 = .ok (.iconst 1, 1) := by decide +kernel
theorem dX4_readTest_63 : decode cX4_readTest 63 = .ok (.iadd, 1) := by decide +kernel
theorem dX4_readTest_64 : decode cX4_readTest 64 = .ok (.putfield 31, 3) := by decide +kernel
theorem dX4_readTest_67 : decode cX4_readTest 67 = .ok (.aload_n 0, 1) := by decide +kernel
theorem dX4_readTest_68 : decode cX4_readTest 68 = .ok (.getfield 16, 3) := by decide +kernel
theorem dX4_readTest_71 : decode cX4_readTest 71 = .ok (.iconst 4, 1) := by decide +kernel
theorem dX4_readTest_72 : decode cX4_readTest 72 = .ok (.iconst 0, 1) := by decide +kernel
theorem dX4_readTest_73 : decode cX4_readTest 73 = .ok (.invokevirtual 122, 3) := by decide +kernel
theorem dX4_readTest_76 : decode cX4_readTest 76 = .ok (.istore 4, 2) := by decide +kernel
theorem dX4_readTest_78 : decode cX4_readTest 78 = .ok (.iinc 5 1, 3) := by decide +kernel
theorem dX4_readTest_81 : decode cX4_readTest 81 = .ok (.goto (-64), 3) := by decide +kernel
theorem dX4_readTest_84 : decode cX4_readTest 84 = .ok (.aload_n 0, 1) := by decide +kernel
theorem dX4_readTest_85 : decode cX4_readTest 85 = .ok (.getfield 16, 3) := by decide +kernel
theorem dX4_readTest_88 : decode cX4_readTest 88 = .ok (.iload_n 2, 1) := by decide +kernel
theorem dX4_readTest_89 : decode cX4_readTest 89 = .ok (.invokevirtual 119, 3) := by decide +kernel
theorem dX4_readTest_92 : decode cX4_readTest 92 = .ok (.aload_n 0, 1) := by decide +kernel
theorem dX4_readTest_93 : decode cX4_readTest 93 = .ok (.invokevirtual 65, 3) := by decide +kernel
theorem dX4_readTest_96 : decode cX4_readTest 96 = .ok (.sipush 2000, 3) := by decide +kernel
theorem dX4_readTest_99 : decode cX4_readTest 99 = .ok (.if_icmp .eq 5, 3) := by decide +kernel
theorem dX4_readTest_102 : decode cX4_readTest 102 = .ok (.iconst 1, 1) := by decide +kernel
theorem dX4_readTest_103 : decode cX4_readTest 103 = .ok (.ireturn, 1) := by decide +kernel
theorem dX4_readTest_104 : decode cX4_readTest 104 = .ok (.aload_n 0, 1) := by decide +kernel
theorem dX4_readTest_105 : decode cX4_readTest 105 = .ok (.dup, 1) := by decide +kernel
theorem dX4_readTest_106 : decode cX4_readTest 106 = .ok (.getfield 31, 3) := by decide +kernel
theorem dX4_readTest_109 : decode cX4_readTest 109 = .ok (.iconst 1, 1) := by decide +kernel
theorem dX4_readTest_110 : decode cX4_readTest 110 = .ok (.iadd, 1) := by decide +kernel
theorem dX4_readTest_111 : decode cX4_readTest 111 = .ok (.putfield 31, 3) := by decide +kernel
theorem dX4_readTest_114 : decode cX4_readTest 114 = .ok (.aload_n 0, 1) := by decide +kernel
theorem dX4_readTest_115 : decode cX4_readTest 115 = .ok (.getfield 16, 3) := by decide +kernel
theorem dX4_readTest_118 : decode cX4_readTest 118 = .ok (.iconst 3, 1) := by decide +kernel
theorem dX4_readTest_119 : decode cX4_readTest 119 = .ok (.iconst 0, 1) := by decide +kernel
theorem dX4_readTest_120 : decode cX4_readTest 120 = .ok (.invokevirtual 122, 3) := by decide +kernel
theorem dX4_readTest_123 : decode cX4_readTest 123 = .ok (.istore_n 2, 1) := by decide +kernel
theorem dX4_readTest_124 : decode cX4_readTest 124 = .ok (.iinc 3 1, 3) := by decide +kernel
theorem dX4_readTest_127 : decode cX4_readTest 127 = .ok (.goto (-123), 3) := by decide +kernel
theorem dX4_readPlain_0 : decode cX4_readPlain 0 = .ok (.iconst 0, 1) := by decide +kernel
theorem dX4_readPlain_1 : decode cX4_readPlain 1 = .ok (.istore_n 2, 1) := by decide +kernel
theorem dX4_readPlain_2 : decode cX4_readPlain 2 = .ok (.iconst 0, 1) := by decide +kernel
theorem dX4_readPlain_3 : decode cX4_readPlain 3 = .ok (.istore_n 3, 1) := by decide +kernel
theorem dX4_readPlain_4 : decode cX4_readPlain 4 = .ok (.iload_n 3, 1) := by decide +kernel
theorem dX4_readPlain_5 : decode cX4_readPlain 5 = .ok (.sipush 400, 3) := by decide +kernel
theorem dX4_readPlain_8 : decode cX4_readPlain 8 = .ok (.if_icmp .ge 39, 3) := by decide +kernel
theorem dX4_readPlain_11 : decode cX4_readPlain 11 = .ok (.aload_n 0, 1) := by decide +kernel
theorem dX4_readPlain_12 : decode cX4_readPlain 12 = .ok (.invokevirtual 65, 3) := by decide +kernel
theorem dX4_readPlain_15 : decode cX4_readPlain 15 = .ok (.sipush 2002, 3) := by decide +kernel
theorem dX4_readPlain_18 : decode cX4_readPlain 18 = .ok (.if_icmp .ne 29, 3) := by decide +kernel
theorem dX4_readPlain_21 : decode cX4_readPlain 21 = .ok (.aload_n 0, 1) := by decide +kernel
theorem dX4_readPlain_22 : decode cX4_readPlain 22 = .ok (.dup, 1) := by decide +kernel
theorem dX4_readPlain_23 : decode cX4_readPlain 23 = .ok (.getfield 31, 3) := by decide +kernel
theorem dX4_readPlain_26 : decode cX4_readPlain 26 = .ok (.iconst 1, 1) := by decide +kernel
theorem dX4_readPlain_27 : decode cX4_readPlain 27 = .ok (.iadd, 1) := by decide +kernel
theorem dX4_readPlain_28 : decode cX4_readPlain 28 = .ok (.putfield 31, 3) := by decide +kernel
theorem dX4_readPlain_31 : decode cX4_readPlain 31 = .ok (.iload_n 2, 1) := by decide +kernel
theorem dX4_readPlain_32 : decode cX4_readPlain 32 = .ok (.ifCond .ne 7, 3) := by decide +kernel
theorem dX4_readPlain_35 : decode cX4_readPlain 35 = .ok (.iconst 1, 1) := by decide +kernel
theorem dX4_readPlain_36 : decode cX4_readPlain 36 = .ok (.goto 4, 3) := by decide +kernel
theorem dX4_readPlain_39 : decode cX4_readPlain 39 = .ok (.iconst 0, 1) := by decide +kernel
theorem dX4_readPlain_40 : decode cX4_readPlain 40 = .ok (.istore_n 2, 1) := by decide +kernel
theorem dX4_readPlain_41 : decode cX4_readPlain 41 = .ok (.iinc 3 1, 3) := by decide +kernel
theorem dX4_readPlain_44 : decode cX4_readPlain 44 = .ok (.goto (-40), 3) := by decide +kernel
theorem dX4_readPlain_47 : decode cX4_readPlain 47 = .ok (.aload_n 0, 1) := by decide +kernel
theorem dX4_readPlain_48 : decode cX4_readPlain 48 = .ok (.invokevirtual 65, 3) := by decide +kernel
theorem dX4_readPlain_51 : decode cX4_readPlain 51 = .ok (.sipush 3040, 3) := by decide +kernel
theorem dX4_readPlain_54 : decode cX4_readPlain 54 = .ok (.if_icmp .ne 56, 3) := by decide +kernel
theorem dX4_readPlain_57 : decode cX4_readPlain 57 = .ok (.iload_n 1, 1) := by decide +kernel
theorem dX4_readPlain_58 : decode cX4_readPlain 58 = .ok (.bipush 8, 2) := by decide +kernel
theorem dX4_readPlain_60 : decode cX4_readPlain 60 = .ok (.if_icmp .lt 5, 3) := by decide +kernel
theorem dX4_readPlain_63 : decode cX4_readPlain 63 = .ok (.iconst 0, 1) := by decide +kernel
theorem dX4_readPlain_64 : decode cX4_readPlain 64 = .ok (.ireturn, 1) := by decide +kernel
theorem dX4_readPlain_65 : decode cX4_readPlain 65 = .ok (.aload_n 0, 1) := by decide +kernel
theorem dX4_readPlain_66 : decode cX4_readPlain 66 = .ok (.dup, 1) := by decide +kernel
theorem dX4_readPlain_67 : decode cX4_readPlain 67 = .ok (.getfield 31, 3) := by decide +kernel
theorem dX4_readPlain_70 : decode cX4_readPlain 70 = .ok (.iconst 1, 1) := by decide +kernel
theorem dX4_readPlain_71 : decode cX4_readPlain 71 = .ok (.iadd, 1) := by decide +kernel
theorem dX4_readPlain_72 : decode cX4_readPlain 72 = .ok (.putfield 31, 3) := by decide +kernel
theorem dX4_readPlain_75 : decode cX4_readPlain 75 = .ok (.aload_n 0, 1) := by decide +kernel
theorem dX4_readPlain_76 : decode cX4_readPlain 76 = .ok (.iload_n 1, 1) := by decide +kernel
theorem dX4_readPlain_77 : decode cX4_readPlain 77 = .ok (.iconst 1, 1) := by decide +kernel
theorem dX4_readPlain_78 : decode cX4_readPlain 78 = .ok (.iadd, 1) := by decide +kernel
theorem dX4_readPlain_79 : decode cX4_readPlain 79 = .ok (.invokevirtual 68, 3) := by decide +kernel
theorem dX4_readPlain_82 : decode cX4_readPlain 82 = .ok (.ifCond .eq 13, 3) := by decide +kernel
theorem dX4_readPlain_85 : decode cX4_readPlain 85 = .ok (.aload_n 0, 1) := by decide +kernel
theorem dX4_readPlain_86 : decode cX4_readPlain 86 = .ok (.invokevirtual 65, 3) := by decide +kernel
theorem dX4_readPlain_89 : decode cX4_readPlain 89 = .ok (.sipush 3041, 3) := by decide +kernel
theorem dX4_readPlain_92 : decode cX4_readPlain 92 = .ok (.if_icmp .eq 5, 3) := by decide +kernel
theorem dX4_readPlain_95 : decode cX4_readPlain 95 = .ok (.iconst 0, 1) := by decide +kernel
theorem dX4_readPlain_96 : decode cX4_readPlain 96 = .ok (.ireturn, 1) := by decide +kernel
theorem dX4_readPlain_97 : decode cX4_readPlain 97 = .ok (.aload_n 0, 1) := by decide +kernel
theorem dX4_readPlain_98 : decode cX4_readPlain 98 = .ok (.dup, 1) := by decide +kernel
theorem dX4_readPlain_99 : decode cX4_readPlain 99 = .ok (.getfield 31, 3) := by decide +kernel
theorem dX4_readPlain_102 : decode cX4_readPlain 102 = .ok (.iconst 1, 1) := by decide +kernel
theorem dX4_readPlain_103 : decode cX4_readPlain 103 = .ok (.iadd, 1) := by decide +kernel
theorem dX4_readPlain_104 : decode cX4_readPlain 104 = .ok (.putfield 31, 3) := by decide +kernel
theorem dX4_readPlain_107 : decode cX4_readPlain 107 = .ok (.goto 97, 3) := by decide +kernel
theorem dX4_readPlain_110 : decode cX4_readPlain 110 = .ok (.aload_n 0, 1) := by decide +kernel
theorem dX4_readPlain_111 : decode cX4_readPlain 111 = .ok (.iload_n 1, 1) := by decide +kernel
theorem dX4_readPlain_112 : decode cX4_readPlain 112 = .ok (.invokevirtual 107, 3) := by decide +kernel
theorem dX4_readPlain_115 : decode cX4_readPlain 115 = .ok (.ifCond .ne 5, 3) := by decide +kernel
theorem dX4_readPlain_118 : decode cX4_readPlain 118 = .ok (.iconst 0, 1) := by decide +kernel
theorem dX4_readPlain_119 : decode cX4_readPlain 119 = .ok (.ireturn, 1) := by decide +kernel
theorem dX4_readPlain_120 : decode cX4_readPlain 120 = .ok (.aload_n 0, 1) := by decide +kernel
theorem dX4_readPlain_121 : decode cX4_readPlain 121 = .ok (.invokevirtual 65, 3) := by decide +kernel
theorem dX4_readPlain_124 : decode cX4_readPlain 124 = .ok (.sipush 3060, 3) := by decide +kernel
theorem dX4_readPlain_127 : decode cX4_readPlain 127 = .ok (.if_icmp .ne 8, 3) := by decide +kernel
theorem dX4_readPlain_130 : decode cX4_readPlain 130 = .ok (.bipush 10, 2) := by decide +kernel
theorem dX4_readPlain_132 : decode cX4_readPlain 132 = .ok (.goto 34, 3) := by decide +kernel
theorem dX4_readPlain_135 : decode cX4_readPlain 135 = .ok (.aload_n 0, 1) := by decide +kernel
theorem dX4_readPlain_136 : decode cX4_readPlain 136 = .ok (.invokevirtual 65, 3) := by decide +kernel
theorem dX4_readPlain_139 : decode cX4_readPlain 139 = .ok (.sipush 3062, 3) := by decide +kernel
theorem dX4_readPlain_142 : decode cX4_readPlain 142 = .ok (.if_icmp .ne 8, 3) := by decide +kernel
theorem dX4_readPlain_145 : decode cX4_readPlain 145 = .ok (.bipush 11, 2) := by decide +kernel
theorem dX4_readPlain_147 : decode cX4_readPlain 147 = .ok (.goto 19, 3) := by decide +kernel
theorem dX4_readPlain_150 : decode cX4_readPlain 150 = .ok (.aload_n 0, 1) := by decide +kernel
theorem dX4_readPlain_151 : decode cX4_readPlain 151 = .ok (.invokevirtual 65, 3) := by decide +kernel
theorem dX4_readPlain_154 : decode cX4_readPlain 154 = .ok (.sipush 3061, 3) := by decide +kernel
theorem dX4_readPlain_157 : decode cX4_readPlain 157 = .ok (.if_icmp .ne 8, 3) := by decide +kernel
theorem dX4_readPlain_160 : decode cX4_readPlain 160 = .ok (.bipush 12, 2) := by decide +kernel
theorem dX4_readPlain_162 : decode cX4_readPlain 162 = .ok (.goto 4, 3) := by decide +kernel
theorem dX4_readPlain_165 : decode cX4_readPlain 165 = .ok (.iconst (-1), 1) := by decide +kernel
theorem dX4_readPlain_166 : decode cX4_readPlain 166 = .ok (.istore_n 3, 1) := by decide +kernel
theorem dX4_readPlain_167 : decode cX4_readPlain 167 = .ok (.iload_n 3, 1) := by decide +kernel
theorem dX4_readPlain_168 : decode cX4_readPlain 168 = .ok (.iconst (-1), 1) := by decide +kernel
theorem dX4_readPlain_169 : decode cX4_readPlain 169 = .ok (.if_icmp .ne 5, 3) := by decide +kernel
theorem dX4_readPlain_172 : decode cX4_readPlain 172 = .ok (.iconst 0, 1) := by decide +kernel
theorem dX4_readPlain_173 : decode cX4_readPlain 173 = .ok (.ireturn, 1) := by decide +kernel
theorem dX4_readPlain_174 : decode cX4_readPlain 174 = .ok (.aload_n 0, 1) := by decide +kernel
theorem dX4_readPlain_175 : decode cX4_readPlain 175 = .ok (.dup, 1) := by decide +kernel
theorem dX4_readPlain_176 : decode cX4_readPlain 176 = .ok (.getfield 31, 3) := by decide +kernel
theorem dX4_readPlain_179 : decode cX4_readPlain 179 = .ok (.iconst 1, 1) := by decide +kernel
theorem dX4_readPlain_180 : decode cX4_readPlain 180 = .ok (.iadd, 1) := by decide +kernel
theorem dX4_readPlain_181 : decode cX4_readPlain 181 = .ok (.putfield 31, 3) := by decide +kernel
theorem dX4_readPlain_184 : decode cX4_readPlain 184 = .ok (.aload_n 0, 1) := by decide +kernel
theorem dX4_readPlain_185 : decode cX4_readPlain 185 = .ok (.iload_n 1, 1) := by decide +kernel
theorem dX4_readPlain_186 : decode cX4_readPlain 186 = .ok (.invokevirtual 107, 3) := by decide +kernel
theorem dX4_readPlain_189 : decode cX4_readPlain 189 = .ok (.ifCond .ne 5, 3) := by decide +kernel
theorem dX4_readPlain_192 : decode cX4_readPlain 192 = .ok (.iconst 0, 1) := by decide +kernel
theorem dX4_readPlain_193 : decode cX4_readPlain 193 = .ok (.ireturn, 1) := by decide +kernel
theorem dX4_readPlain_194 : decode cX4_readPlain 194 = .ok (.aload_n 0, 1) := by decide +kernel
theorem dX4_readPlain_195 : decode cX4_readPlain 195 = .ok (.getfield 16, 3) := by decide +kernel
theorem dX4_readPlain_198 : decode cX4_readPlain 198 = .ok (.iload_n 3, 1) := by decide +kernel
theorem dX4_readPlain_199 : decode cX4_readPlain 199 = .ok (.iconst 0, 1) := by decide +kernel
theorem dX4_readPlain_200 : decode cX4_readPlain 200 = .ok (.invokevirtual 122, 3) := by decide +kernel
theorem dX4_readPlain_203 : decode cX4_readPlain 203 = .ok (.pop, 1) := by decide +kernel
theorem dX4_readPlain_204 : decode cX4_readPlain 204 = .ok (.aload_n 0, 1) := by decide +kernel
theorem dX4_readPlain_205 : decode cX4_readPlain 205 = .ok (.iload_n 2, 1) := by decide +kernel
theorem dX4_readPlain_206 : decode cX4_readPlain 206 = .ok (.ifCond .eq 7, 3) := by decide +kernel
theorem dX4_readPlain_209 : decode cX4_readPlain 209 = .ok (.iconst 2, 1) := by decide +kernel
theorem dX4_readPlain_210 : decode cX4_readPlain 210 = .ok (.goto 4, 3) := by decide +kernel
theorem dX4_readPlain_213 : decode cX4_readPlain 213 = .ok (.iconst (-1), 1) := by decide +kernel
theorem dX4_readPlain_214 : decode cX4_readPlain 214 = .ok (.invokevirtual 125, 3) := by decide +kernel
theorem dX4_readPlain_217 : decode cX4_readPlain 217 = .ok (.iconst 1, 1) := by decide +kernel
theorem dX4_readPlain_218 : decode cX4_readPlain 218 = .ok (.ireturn, 1) := by decide +kernel
theorem dX4_readSum_0 : decode cX4_readSum 0 = .ok (.iconst (-1), 1) := by decide +kernel
theorem dX4_readSum_1 : decode cX4_readSum 1 = .ok (.istore_n 2, 1) := by decide +kernel
theorem dX4_readSum_2 : decode cX4_readSum 2 = .ok (.iconst 0, 1) := by decide +kernel
theorem dX4_readSum_3 : decode cX4_readSum 3 = .ok (.istore_n 3, 1) := by decide +kernel
theorem dX4_readSum_4 : decode cX4_readSum 4 = .ok (.iload_n 3, 1) := by decide +kernel
theorem dX4_readSum_5 : decode cX4_readSum 5 = .ok (.sipush 400, 3) := by decide +kernel
theorem dX4_readSum_8 : decode cX4_readSum 8 = .ok (.if_icmp .ge 165, 3) := by decide +kernel
theorem dX4_readSum_11 : decode cX4_readSum 11 = .ok (.iconst (-1), 1) := by decide +kernel
theorem dX4_readSum_12 : decode cX4_readSum 12 = .ok (.istore 4, 2) := by decide +kernel
theorem dX4_readSum_14 : decode cX4_readSum 14 = .ok (.iconst 0, 1) := by decide +kernel
theorem dX4_readSum_15 : decode cX4_readSum 15 = .ok (.istore 5, 2) := by decide +kernel
theorem dX4_readSum_17 : decode cX4_readSum 17 = .ok (.iload 5, 2) := by decide +kernel
theorem dX4_readSum_19 : decode cX4_readSum 19 = .ok (.sipush 400, 3) := by decide +kernel
theorem dX4_readSum_22 : decode cX4_readSum 22 = .ok (.if_icmp .ge 92, 3) := by decide +kernel
theorem dX4_readSum_25 : decode cX4_readSum 25 = .ok (.aload_n 0, 1) := by decide +kernel
theorem dX4_readSum_26 : decode cX4_readSum 26 = .ok (.iload_n 1, 1) := by decide +kernel
theorem dX4_readSum_27 : decode cX4_readSum 27 = .ok (.invokevirtual 128, 3) := by decide +kernel
theorem dX4_readSum_30 : decode cX4_readSum 30 = .ok (.ifCond .ne 5, 3) := by decide +kernel
theorem dX4_readSum_33 : decode cX4_readSum 33 = .ok (.iconst 0, 1) := by decide +kernel
theorem dX4_readSum_34 : decode cX4_readSum 34 = .ok (.ireturn, 1) := by decide +kernel
theorem dX4_readSum_35 : decode cX4_readSum 35 = .ok (.aload_n 0, 1) := by decide +kernel
theorem dX4_readSum_36 : decode cX4_readSum 36 = .ok (.iload 4, 2) := by decide +kernel
theorem dX4_readSum_38 : decode cX4_readSum 38 = .ok (.invokevirtual 125, 3) := by decide +kernel
theorem dX4_readSum_41 : decode cX4_readSum 41 = .ok (.aload_n 0, 1) := by decide +kernel
theorem dX4_readSum_42 : decode cX4_readSum 42 = .ok (.invokevirtual 65, 3) := by decide +kernel
theorem dX4_readSum_45 : decode cX4_readSum 45 = .ok (.sipush 3042, 3) := by decide +kernel
theorem dX4_readSum_48 : decode cX4_readSum 48 = .ok (.if_icmp .ne 8, 3) := by decide +kernel
theorem dX4_readSum_51 : decode cX4_readSum 51 = .ok (.bipush 7, 2) := by decide +kernel
theorem dX4_readSum_53 : decode cX4_readSum 53 = .ok (.goto 34, 3) := by decide +kernel
theorem dX4_readSum_56 : decode cX4_readSum 56 = .ok (.aload_n 0, 1) := by decide +kernel
theorem dX4_readSum_57 : decode cX4_readSum 57 = .ok (.invokevirtual 65, 3) := by decide +kernel
theorem dX4_readSum_60 : decode cX4_readSum 60 = .ok (.sipush 3047, 3) := by decide +kernel
theorem dX4_readSum_63 : decode cX4_readSum 63 = .ok (.if_icmp .ne 8, 3) := by decide +kernel
theorem dX4_readSum_66 : decode cX4_readSum 66 = .ok (.bipush 8, 2) := by decide +kernel
theorem dX4_readSum_68 : decode cX4_readSum 68 = .ok (.goto 19, 3) := by decide +kernel
theorem dX4_readSum_71 : decode cX4_readSum 71 = .ok (.aload_n 0, 1) := by decide +kernel
theorem dX4_readSum_72 : decode cX4_readSum 72 = .ok (.invokevirtual 65, 3) := by decide +kernel
theorem dX4_readSum_75 : decode cX4_readSum 75 = .ok (.sipush 3037, 3) := by decide +kernel
theorem dX4_readSum_78 : decode cX4_readSum 78 = .ok (.if_icmp .ne 8, 3) := by decide +kernel
theorem dX4_readSum_81 : decode cX4_readSum 81 = .ok (.bipush 9, 2) := by decide +kernel
theorem dX4_readSum_83 : decode cX4_readSum 83 = .ok (.goto 4, 3) := by decide +kernel
theorem dX4_readSum_86 : decode cX4_readSum 86 = .ok (.iconst (-1), 1) := by decide +kernel
theorem dX4_readSum_87 : decode cX4_readSum 87 = .ok (.istore 4, 2) := by decide +kernel
theorem dX4_readSum_89 : decode cX4_readSum 89 = .ok (.iload 4, 2) := by decide +kernel
theorem dX4_readSum_91 : decode cX4_readSum 91 = .ok (.iconst (-1), 1) := by decide +kernel
theorem dX4_readSum_92 : decode cX4_readSum 92 = .ok (.if_icmp .ne 6, 3) := by decide +kernel
theorem dX4_readSum_95 : decode cX4_readSum 95 = .ok (.goto 19, 3) := by decide +kernel
theorem dX4_readSum_98 : decode cX4_readSum 98 = .ok (.aload_n 0, 1) := by decide +kernel
theorem dX4_readSum_99 : decode cX4_readSum 99 = .ok (.dup, 1) := by decide +kernel
theorem dX4_readSum_100 : decode cX4_readSum 100 = .ok (.getfield 31, 3) := by decide +kernel
theorem dX4_readSum_103 : decode cX4_readSum 103 = .ok (.iconst 1, 1) := by decide +kernel
theorem dX4_readSum_104 : decode cX4_readSum 104 = .ok (.iadd, 1) := by decide +kernel
theorem dX4_readSum_105 : decode cX4_readSum 105 = .ok (.putfield 31, 3) := by decide +kernel
theorem dX4_readSum_108 : decode cX4_readSum 108 = .ok (.iinc 5 1, 3) := by decide +kernel
theorem dX4_readSum_111 : decode cX4_readSum 111 = .ok (.goto (-94), 3) := by decide +kernel
theorem dX4_readSum_114 : decode cX4_readSum 114 = .ok (.aload_n 0, 1) := by decide +kernel
theorem dX4_readSum_115 : decode cX4_readSum 115 = .ok (.iload_n 2, 1) := by decide +kernel
theorem dX4_readSum_116 : decode cX4_readSum 116 = .ok (.invokevirtual 125, 3) := by decide +kernel
theorem dX4_readSum_119 : decode cX4_readSum 119 = .ok (.aload_n 0, 1) := by decide +kernel
theorem dX4_readSum_120 : decode cX4_readSum 120 = .ok (.invokevirtual 65, 3) := by decide +kernel
theorem dX4_readSum_123 : decode cX4_readSum 123 = .ok (.sipush 3043, 3) := by decide +kernel
theorem dX4_readSum_126 : decode cX4_readSum 126 = .ok (.if_icmp .ne 7, 3) := by decide +kernel
theorem dX4_readSum_129 : decode cX4_readSum 129 = .ok (.iconst 5, 1) := by decide +kernel
theorem dX4_readSum_130 : decode cX4_readSum 130 = .ok (.goto 19, 3) := by decide +kernel
theorem dX4_readSum_133 : decode cX4_readSum 133 = .ok (.aload_n 0, 1) := by decide +kernel
theorem dX4_readSum_134 : decode cX4_readSum 134 = .ok (.invokevirtual 65, 3) := by decide +kernel
theorem dX4_readSum_137 : decode cX4_readSum 137 = .ok (.sipush 3045, 3) := by decide +kernel
theorem dX4_readSum_140 : decode cX4_readSum 140 = .ok (.if_icmp .ne 8, 3) := by decide +kernel
theorem dX4_readSum_143 : decode cX4_readSum 143 = .ok (.bipush 6, 2) := by decide +kernel
theorem dX4_readSum_145 : decode cX4_readSum 145 = .ok (.goto 4, 3) := by decide +kernel
theorem dX4_readSum_148 : decode cX4_readSum 148 = .ok (.iconst (-1), 1) := by decide +kernel
theorem dX4_readSum_149 : decode cX4_readSum 149 = .ok (.istore_n 2, 1) := by decide +kernel
theorem dX4_readSum_150 : decode cX4_readSum 150 = .ok (.iload_n 2, 1) := by decide +kernel
theorem dX4_readSum_151 : decode cX4_readSum 151 = .ok (.iconst (-1), 1) := by decide +kernel
theorem dX4_readSum_152 : decode cX4_readSum 152 = .ok (.if_icmp .ne 5, 3) := by decide +kernel
theorem dX4_readSum_155 : decode cX4_readSum 155 = .ok (.iconst 1, 1) := by decide +kernel
theorem dX4_readSum_156 : decode cX4_readSum 156 = .ok (.ireturn, 1) := by decide +kernel
theorem dX4_readSum_157 : decode cX4_readSum 157 = .ok (.aload_n 0, 1) := by decide +kernel
theorem dX4_readSum_158 : decode cX4_readSum 158 = .ok (.dup, 1) := by decide +kernel
theorem dX4_readSum_159 : decode cX4_readSum 159 = .ok (.getfield 31, 3) := by decide +kernel
theorem dX4_readSum_162 : decode cX4_readSum 162 = .ok (.iconst 1, 1) := by decide +kernel
theorem dX4_readSum_163 : decode cX4_readSum 163 = .ok (.iadd, 1) := by decide +kernel
theorem dX4_readSum_164 : decode cX4_readSum 164 = .ok (.putfield 31, 3) := by decide +kernel
theorem dX4_readSum_167 : decode cX4_readSum 167 = .ok (.iinc 3 1, 3) := by decide +kernel
theorem dX4_readSum_170 : decode cX4_readSum 170 = .ok (.goto (-166), 3) := by decide +kernel
theorem dX4_emitIfAny_0 : decode cX4_emitIfAny 0 = .ok (.iload_n 1, 1) := by decide +kernel
theorem dX4_emitIfAny_1 : decode cX4_emitIfAny 1 = .ok (.iconst (-1), 1) := by decide +kernel
theorem dX4_emitIfAny_2 : decode cX4_emitIfAny 2 = .ok (.if_icmp .eq 13, 3) := by decide +kernel
theorem dX4_emitIfAny_5 : decode cX4_emitIfAny 5 = .ok (.aload_n 0, 1) := by decide +kernel
theorem dX4_emitIfAny_6 : decode cX4_emitIfAny 6 = .ok (.getfield 16, 3) := by decide +kernel
theorem dX4_emitIfAny_9 : decode cX4_emitIfAny 9 = .ok (.iload_n 1, 1) := by decide +kernel
theorem dX4_emitIfAny_10 : decode cX4_emitIfAny 10 = .ok (.iconst 0, 1) := by decide +kernel
theorem dX4_emitIfAny_11 : decode cX4_emitIfAny 11 = .ok (.invokevirtual 122, 3) := by decide +kernel
theorem dX4_emitIfAny_14 : decode cX4_emitIfAny 14 = .ok (.pop, 1) := by decide +kernel
theorem dX4_emitIfAny_15 : decode cX4_emitIfAny 15 = .ok (.return_, 1) := by decide +kernel
theorem dX4_readOperand_0 : decode cX4_readOperand 0 = .ok (.aload_n 0, 1) := by decide +kernel
theorem dX4_readOperand_1 : decode cX4_readOperand 1 = .ok (.invokevirtual 65, 3) := by decide +kernel
theorem dX4_readOperand_4 : decode cX4_readOperand 4 = .ok (.istore_n 2, 1) := by decide +kernel
theorem dX4_readOperand_5 : decode cX4_readOperand 5 = .ok (.iload_n 2, 1) := by decide +kernel
theorem dX4_readOperand_6 : decode cX4_readOperand 6 = .ok (.sipush 3091, 3) := by decide +kernel
theorem dX4_readOperand_9 : decode cX4_readOperand 9 = .ok (.if_icmp .ne 55, 3) := by decide +kernel
theorem dX4_readOperand_12 : decode cX4_readOperand 12 = .ok (.iload_n 1, 1) := by decide +kernel
theorem dX4_readOperand_13 : decode cX4_readOperand 13 = .ok (.bipush 8, 2) := by decide +kernel
theorem dX4_readOperand_15 : decode cX4_readOperand 15 = .ok (.if_icmp .lt 5, 3) := by decide +kernel
theorem dX4_readOperand_18 : decode cX4_readOperand 18 = .ok (.iconst 0, 1) := by decide +kernel
theorem dX4_readOperand_19 : decode cX4_readOperand 19 = .ok (.ireturn, 1) := by decide +kernel
theorem dX4_readOperand_20 : decode cX4_readOperand 20 = .ok (.aload_n 0, 1) := by decide +kernel
theorem dX4_readOperand_21 : decode cX4_readOperand 21 = .ok (.dup, 1) := by decide +kernel
theorem dX4_readOperand_22 : decode cX4_readOperand 22 = .ok (.getfield 31, 3) := by decide +kernel
theorem dX4_readOperand_25 : decode cX4_readOperand 25 = .ok (.iconst 1, 1) := by decide +kernel
theorem dX4_readOperand_26 : decode cX4_readOperand 26 = .ok (.iadd, 1) := by decide +kernel
theorem dX4_readOperand_27 : decode cX4_readOperand 27 = .ok (.putfield 31, 3) := by decide +kernel
theorem dX4_readOperand_30 : decode cX4_readOperand 30 = .ok (.aload_n 0, 1) := by decide +kernel
theorem dX4_readOperand_31 : decode cX4_readOperand 31 = .ok (.iload_n 1, 1) := by decide +kernel
theorem dX4_readOperand_32 : decode cX4_readOperand 32 = .ok (.iconst 1, 1) := by decide +kernel
theorem dX4_readOperand_33 : decode cX4_readOperand 33 = .ok (.iadd, 1) := by decide +kernel
theorem dX4_readOperand_34 : decode cX4_readOperand 34 = .ok (.invokevirtual 107, 3) := by decide +kernel
theorem dX4_readOperand_37 : decode cX4_readOperand 37 = .ok (.ifCond .eq 13, 3) := by decide +kernel
theorem dX4_readOperand_40 : decode cX4_readOperand 40 = .ok (.aload_n 0, 1) := by decide +kernel
theorem dX4_readOperand_41 : decode cX4_readOperand 41 = .ok (.invokevirtual 65, 3) := by decide +kernel
theorem dX4_readOperand_44 : decode cX4_readOperand 44 = .ok (.sipush 3093, 3) := by decide +kernel
theorem dX4_readOperand_47 : decode cX4_readOperand 47 = .ok (.if_icmp .eq 5, 3) := by decide +kernel
theorem dX4_readOperand_50 : decode cX4_readOperand 50 = .ok (.iconst 0, 1) := by decide +kernel
theorem dX4_readOperand_51 : decode cX4_readOperand 51 = .ok (.ireturn, 1) := by decide +kernel
theorem dX4_readOperand_52 : decode cX4_readOperand 52 = .ok (.aload_n 0, 1) := by decide +kernel
theorem dX4_readOperand_53 : decode cX4_readOperand 53 = .ok (.dup, 1) := by decide +kernel
theorem dX4_readOperand_54 : decode cX4_readOperand 54 = .ok (.getfield 31, 3) := by decide +kernel
theorem dX4_readOperand_57 : decode cX4_readOperand 57 = .ok (.iconst 1, 1) := by decide +kernel
theorem dX4_readOperand_58 : decode cX4_readOperand 58 = .ok (.iadd, 1) := by decide +kernel
theorem dX4_readOperand_59 : decode cX4_readOperand 59 = .ok (.putfield 31, 3) := by decide +kernel
theorem dX4_readOperand_62 : decode cX4_readOperand 62 = .ok (.iconst 1, 1) := by decide +kernel
theorem dX4_readOperand_63 : decode cX4_readOperand 63 = .ok (.ireturn, 1) := by decide +kernel
theorem dX4_readOperand_64 : decode cX4_readOperand 64 = .ok (.aload_n 0, 1) := by decide +kernel
theorem dX4_readOperand_65 : decode cX4_readOperand 65 = .ok (.getfield 34, 3) := by decide +kernel
theorem dX4_readOperand_68 : decode cX4_readOperand 68 = .ok (.bipush 50, 2) := by decide +kernel
theorem dX4_readOperand_70 : decode cX4_readOperand 70 = .ok (.if_icmp .lt 5, 3) := by decide +kernel
theorem dX4_readOperand_73 : decode cX4_readOperand 73 = .ok (.iconst 0, 1) := by decide +kernel
theorem dX4_readOperand_74 : decode cX4_readOperand 74 = .ok (.ireturn, 1) := by decide +kernel
theorem dX4_readOperand_75 : decode cX4_readOperand 75 = .ok (.aload_n 0, 1) := by decide +kernel
theorem dX4_readOperand_76 : decode cX4_readOperand 76 = .ok (.dup, 1) := by decide +kernel
theorem dX4_readOperand_77 : decode cX4_readOperand 77 = .ok (.getfield 34, 3) := by decide +kernel
theorem dX4_readOperand_80 : decode cX4_readOperand 80 = .ok (.iconst 1, 1) := by decide +kernel
theorem dX4_readOperand_81 : decode cX4_readOperand 81 = .ok (.iadd, 1) := by decide +kernel
theorem dX4_readOperand_82 : decode cX4_readOperand 82 = .ok (.putfield 34, 3) := by decide +kernel
theorem dX4_readOperand_85 : decode cX4_readOperand 85 = .ok (.iload_n 2, 1) := by decide +kernel
theorem dX4_readOperand_86 : decode cX4_readOperand 86 = .ok (.ifCond .lt 32, 3) := by decide +kernel
theorem dX4_readOperand_89 : decode cX4_readOperand 89 = .ok (.iload_n 2, 1) := by decide +kernel
theorem dX4_readOperand_90 : decode cX4_readOperand 90 = .ok (.sipush 1000, 3) := by decide +kernel
theorem dX4_readOperand_93 : decode cX4_readOperand 93 = .ok (.if_icmp .gt 25, 3) := by decide +kernel
theorem dX4_readOperand_96 : decode cX4_readOperand 96 = .ok (.aload_n 0, 1) := by decide +kernel
theorem dX4_readOperand_97 : decode cX4_readOperand 97 = .ok (.dup, 1) := by decide +kernel
theorem dX4_readOperand_98 : decode cX4_readOperand 98 = .ok (.getfield 31, 3) := by decide +kernel
theorem dX4_readOperand_101 : decode cX4_readOperand 101 = .ok (.iconst 1, 1) := by decide +kernel
theorem dX4_readOperand_102 : decode cX4_readOperand 102 = .ok (.iadd, 1) := by decide +kernel
theorem dX4_readOperand_103 : decode cX4_readOperand 103 = .ok (.putfield 31, 3) := by decide +kernel
theorem dX4_readOperand_106 : decode cX4_readOperand 106 = .ok (.aload_n 0, 1) := by decide +kernel
theorem dX4_readOperand_107 : decode cX4_readOperand 107 = .ok (.getfield 16, 3) := by decide +kernel
theorem dX4_readOperand_110 : decode cX4_readOperand 110 = .ok (.iconst 0, 1) := by decide +kernel
theorem dX4_readOperand_111 : decode cX4_readOperand 111 = .ok (.iload_n 2, 1) := by decide +kernel
theorem dX4_readOperand_112 : decode cX4_readOperand 112 = .ok (.invokevirtual 122, 3) := by decide +kernel
theorem dX4_readOperand_115 : decode cX4_readOperand 115 = .ok (.pop, 1) := by decide +kernel
theorem dX4_readOperand_116 : decode cX4_readOperand 116 = .ok (.iconst 1, 1) := by decide +kernel
theorem dX4_readOperand_117 : decode cX4_readOperand 117 = .ok (.ireturn, 1) := by decide +kernel
theorem dX4_readOperand_118 : decode cX4_readOperand 118 = .ok (.aload_n 0, 1) := by decide +kernel
theorem dX4_readOperand_119 : decode cX4_readOperand 119 = .ok (.getfield 37, 3) := by decide +kernel
theorem dX4_readOperand_122 : decode cX4_readOperand 122 = .ok (.ifCond .eq 11, 3) := by decide +kernel
theorem dX4_readOperand_125 : decode cX4_readOperand 125 = .ok (.aload_n 0, 1) := by decide +kernel
theorem dX4_readOperand_126 : decode cX4_readOperand 126 = .ok (.iload_n 2, 1) := by decide +kernel
theorem dX4_readOperand_127 : decode cX4_readOperand 127 = .ok (.invokevirtual 131, 3) := by decide +kernel
theorem dX4_readOperand_130 : decode cX4_readOperand 130 = .ok (.goto 8, 3) := by decide +kernel
theorem dX4_readOperand_133 : decode cX4_readOperand 133 = .ok (.aload_n 0, 1) := by decide +kernel
theorem dX4_readOperand_134 : decode cX4_readOperand 134 = .ok (.iload_n 2, 1) := by decide +kernel
theorem dX4_readOperand_135 : decode cX4_readOperand 135 = .ok (.invokevirtual 135, 3) := by decide +kernel
theorem dX4_readOperand_138 : decode cX4_readOperand 138 = .ok (.istore_n 3, 1) := by decide +kernel
theorem dX4_readOperand_139 : decode cX4_readOperand 139 = .ok (.iload_n 3, 1) := by decide +kernel
theorem dX4_readOperand_140 : decode cX4_readOperand 140 = .ok (.iconst (-1), 1) := by decide +kernel
theorem dX4_readOperand_141 : decode cX4_readOperand 141 = .ok (.if_icmp .ne 5, 3) := by decide +kernel
theorem dX4_readOperand_144 : decode cX4_readOperand 144 = .ok (.iconst 0, 1) := by decide +kernel
theorem dX4_readOperand_145 : decode cX4_readOperand 145 = .ok (.ireturn, 1) := by decide +kernel
theorem dX4_readOperand_146 : decode cX4_readOperand 146 = .ok (.aload_n 0, 1) := by decide +kernel
theorem dX4_readOperand_147 : decode cX4_readOperand 147 = .ok (.getfield 16, 3) := by decide +kernel
theorem dX4_readOperand_150 : decode cX4_readOperand 150 = .ok (.iconst 1, 1) := by decide +kernel
theorem dX4_readOperand_151 : decode cX4_readOperand 151 = .ok (.iload_n 3, 1) := by decide +kernel
theorem dX4_readOperand_152 : decode cX4_readOperand 152 = .ok (.invokevirtual 122, 3) := by decide +kernel
theorem dX4_readOperand_155 : decode cX4_readOperand 155 = .ok (.pop, 1) := by decide +kernel
theorem dX4_readOperand_156 : decode cX4_readOperand 156 = .ok (.iconst 1, 1) := by decide +kernel
theorem dX4_readOperand_157 : decode cX4_readOperand 157 = .ok (.ireturn, 1) := by decide +kernel
theorem dX4_takeLawWord_0 : decode cX4_takeLawWord 0 = .ok (.iload_n 1, 1) := by decide +kernel
theorem dX4_takeLawWord_1 : decode cX4_takeLawWord 1 = .ok (.sipush 2008, 3) := by decide +kernel
theorem dX4_takeLawWord_4 : decode cX4_takeLawWord 4 = .ok (.isub, 1) := by decide +kernel
theorem dX4_takeLawWord_5 : decode cX4_takeLawWord 5 = .ok (.istore_n 2, 1) := by decide +kernel
theorem dX4_takeLawWord_6 : decode cX4_takeLawWord 6 = .ok (.iload_n 2, 1) := by decide +kernel
theorem dX4_takeLawWord_7 : decode cX4_takeLawWord 7 = .ok (.ifCond .lt 9, 3) := by decide +kernel
theorem dX4_takeLawWord_10 : decode cX4_takeLawWord 10 = .ok (.iload_n 2, 1) := by decide +kernel
theorem dX4_takeLawWord_11 : decode cX4_takeLawWord 11 = .ok (.bipush 10, 2) := by decide +kernel
theorem dX4_takeLawWord_13 : decode cX4_takeLawWord 13 = .ok (.if_icmp .lt 5, 3) := by decide +kernel
theorem dX4_takeLawWord_16 : decode cX4_takeLawWord 16 = .ok (.iconst (-1), 1) := by decide +kernel
theorem dX4_takeLawWord_17 : decode cX4_takeLawWord 17 = .ok (.ireturn, 1) := by decide +kernel
theorem dX4_takeLawWord_18 : decode cX4_takeLawWord 18 = .ok (.aload_n 0, 1) := by decide +kernel
theorem dX4_takeLawWord_19 : decode cX4_takeLawWord 19 = .ok (.dup, 1) := by decide +kernel
theorem dX4_takeLawWord_20 : decode cX4_takeLawWord 20 = .ok (.getfield 31, 3) := by decide +kernel
theorem dX4_takeLawWord_23 : decode cX4_takeLawWord 23 = .ok (.iconst 1, 1) := by decide +kernel
theorem dX4_takeLawWord_24 : decode cX4_takeLawWord 24 = .ok (.iadd, 1) := by decide +kernel
theorem dX4_takeLawWord_25 : decode cX4_takeLawWord 25 = .ok (.putfield 31, 3) := by decide +kernel
theorem dX4_takeLawWord_28 : decode cX4_takeLawWord 28 = .ok (.iload_n 2, 1) := by decide +kernel
theorem dX4_takeLawWord_29 : decode cX4_takeLawWord 29 = .ok (.ireturn, 1) := by decide +kernel
theorem dX4_takeOrderWord_0 : decode cX4_takeOrderWord 0 = .ok (.iload_n 1, 1) := by decide +kernel
theorem dX4_takeOrderWord_1 : decode cX4_takeOrderWord 1 = .ok (.sipush 2016, 3) := by decide +kernel
theorem dX4_takeOrderWord_4 : decode cX4_takeOrderWord 4 = .ok (.if_icmp .ne 7, 3) := by decide +kernel
theorem dX4_takeOrderWord_7 : decode cX4_takeOrderWord 7 = .ok (.iconst 0, 1) := by decide +kernel
theorem dX4_takeOrderWord_8 : decode cX4_takeOrderWord 8 = .ok (.goto 37, 3) := by decide +kernel
theorem dX4_takeOrderWord_11 : decode cX4_takeOrderWord 11 = .ok (.iload_n 1, 1) := by decide +kernel
theorem dX4_takeOrderWord_12 : decode cX4_takeOrderWord 12 = .ok (.sipush 2024, 3) := by decide +kernel
theorem dX4_takeOrderWord_15 : decode cX4_takeOrderWord 15 = .ok (.if_icmp .ne 7, 3) := by decide +kernel
theorem dX4_takeOrderWord_18 : decode cX4_takeOrderWord 18 = .ok (.iconst 1, 1) := by decide +kernel
theorem dX4_takeOrderWord_19 : decode cX4_takeOrderWord 19 = .ok (.goto 26, 3) := by decide +kernel
theorem dX4_takeOrderWord_22 : decode cX4_takeOrderWord 22 = .ok (.iload_n 1, 1) := by decide +kernel
theorem dX4_takeOrderWord_23 : decode cX4_takeOrderWord 23 = .ok (.sipush 2025, 3) := by decide +kernel
theorem dX4_takeOrderWord_26 : decode cX4_takeOrderWord 26 = .ok (.if_icmp .ne 7, 3) := by decide +kernel
theorem dX4_takeOrderWord_29 : decode cX4_takeOrderWord 29 = .ok (.iconst 2, 1) := by decide +kernel
theorem dX4_takeOrderWord_30 : decode cX4_takeOrderWord 30 = .ok (.goto 15, 3) := by decide +kernel
theorem dX4_takeOrderWord_33 : decode cX4_takeOrderWord 33 = .ok (.iload_n 1, 1) := by decide +kernel
theorem dX4_takeOrderWord_34 : decode cX4_takeOrderWord 34 = .ok (.sipush 2026, 3) := by decide +kernel
theorem dX4_takeOrderWord_37 : decode cX4_takeOrderWord 37 = .ok (.if_icmp .ne 7, 3) := by decide +kernel
theorem dX4_takeOrderWord_40 : decode cX4_takeOrderWord 40 = .ok (.iconst 3, 1) := by decide +kernel
theorem dX4_takeOrderWord_41 : decode cX4_takeOrderWord 41 = .ok (.goto 4, 3) := by decide +kernel
theorem dX4_takeOrderWord_44 : decode cX4_takeOrderWord 44 = .ok (.iconst (-1), 1) := by decide +kernel
theorem dX4_takeOrderWord_45 : decode cX4_takeOrderWord 45 = .ok (.istore_n 2, 1) := by decide +kernel
theorem dX4_takeOrderWord_46 : decode cX4_takeOrderWord 46 = .ok (.iload_n 2, 1) := by decide +kernel
theorem dX4_takeOrderWord_47 : decode cX4_takeOrderWord 47 = .ok (.iconst (-1), 1) := by decide +kernel
theorem dX4_takeOrderWord_48 : decode cX4_takeOrderWord 48 = .ok (.if_icmp .eq 15, 3) := by decide +kernel
theorem dX4_takeOrderWord_51 : decode cX4_takeOrderWord 51 = .ok (.aload_n 0, 1) := by decide +kernel
theorem dX4_takeOrderWord_52 : decode cX4_takeOrderWord 52 = .ok (.dup, 1) := by decide +kernel
theorem dX4_takeOrderWord_53 : decode cX4_takeOrderWord 53 = .ok (.getfield 31, 3) := by decide +kernel
theorem dX4_takeOrderWord_56 : decode cX4_takeOrderWord 56 = .ok (.iconst 1, 1) := by decide +kernel
theorem dX4_takeOrderWord_57 : decode cX4_takeOrderWord 57 = .ok (.iadd, 1) := by decide +kernel
theorem dX4_takeOrderWord_58 : decode cX4_takeOrderWord 58 = .ok (.putfield 31, 3) := by decide +kernel
theorem dX4_takeOrderWord_61 : decode cX4_takeOrderWord 61 = .ok (.iload_n 2, 1) := by decide +kernel
theorem dX4_takeOrderWord_62 : decode cX4_takeOrderWord 62 = .ok (.ireturn, 1) := by decide +kernel
theorem dX4_takeOrderWord_63 : decode cX4_takeOrderWord 63 = .ok (.iload_n 1, 1) := by decide +kernel
theorem dX4_takeOrderWord_64 : decode cX4_takeOrderWord 64 = .ok (.sipush 2014, 3) := by decide +kernel
theorem dX4_takeOrderWord_67 : decode cX4_takeOrderWord 67 = .ok (.if_icmp .ne 7, 3) := by decide +kernel
theorem dX4_takeOrderWord_70 : decode cX4_takeOrderWord 70 = .ok (.iconst 4, 1) := by decide +kernel
theorem dX4_takeOrderWord_71 : decode cX4_takeOrderWord 71 = .ok (.goto 28, 3) := by decide +kernel
theorem dX4_takeOrderWord_74 : decode cX4_takeOrderWord 74 = .ok (.iload_n 1, 1) := by decide +kernel
theorem dX4_takeOrderWord_75 : decode cX4_takeOrderWord 75 = .ok (.sipush 2010, 3) := by decide +kernel
theorem dX4_takeOrderWord_78 : decode cX4_takeOrderWord 78 = .ok (.if_icmp .ne 8, 3) := by decide +kernel
theorem dX4_takeOrderWord_81 : decode cX4_takeOrderWord 81 = .ok (.bipush 14, 2) := by decide +kernel
theorem dX4_takeOrderWord_83 : decode cX4_takeOrderWord 83 = .ok (.goto 16, 3) := by decide +kernel
theorem dX4_takeOrderWord_86 : decode cX4_takeOrderWord 86 = .ok (.iload_n 1, 1) := by decide +kernel
theorem dX4_takeOrderWord_87 : decode cX4_takeOrderWord 87 = .ok (.sipush 2027, 3) := by decide +kernel
theorem dX4_takeOrderWord_90 : decode cX4_takeOrderWord 90 = .ok (.if_icmp .ne 8, 3) := by decide +kernel
theorem dX4_takeOrderWord_93 : decode cX4_takeOrderWord 93 = .ok (.bipush 20, 2) := by decide +kernel
theorem dX4_takeOrderWord_95 : decode cX4_takeOrderWord 95 = .ok (.goto 4, 3) := by decide +kernel
theorem dX4_takeOrderWord_98 : decode cX4_takeOrderWord 98 = .ok (.iconst (-1), 1) := by decide +kernel
theorem dX4_takeOrderWord_99 : decode cX4_takeOrderWord 99 = .ok (.istore_n 3, 1) := by decide +kernel
theorem dX4_takeOrderWord_100 : decode cX4_takeOrderWord 100 = .ok (.iload_n 3, 1) := by decide +kernel
theorem dX4_takeOrderWord_101 : decode cX4_takeOrderWord 101 = .ok (.iconst (-1), 1) := by decide +kernel
theorem dX4_takeOrderWord_102 : decode cX4_takeOrderWord 102 = .ok (.if_icmp .ne 5, 3) := by decide +kernel
theorem dX4_takeOrderWord_105 : decode cX4_takeOrderWord 105 = .ok (.iconst (-1), 1) := by decide +kernel
theorem dX4_takeOrderWord_106 : decode cX4_takeOrderWord 106 = .ok (.ireturn, 1) := by decide +kernel
theorem dX4_takeOrderWord_107 : decode cX4_takeOrderWord 107 = .ok (.aload_n 0, 1) := by decide +kernel
theorem dX4_takeOrderWord_108 : decode cX4_takeOrderWord 108 = .ok (.dup, 1) := by decide +kernel
theorem dX4_takeOrderWord_109 : decode cX4_takeOrderWord 109 = .ok (.getfield 31, 3) := by decide +kernel
theorem dX4_takeOrderWord_112 : decode cX4_takeOrderWord 112 = .ok (.iconst 1, 1) := by decide +kernel
theorem dX4_takeOrderWord_113 : decode cX4_takeOrderWord 113 = .ok (.iadd, 1) := by decide +kernel
theorem dX4_takeOrderWord_114 : decode cX4_takeOrderWord 114 = .ok (.putfield 31, 3) := by decide +kernel
theorem dX4_takeOrderWord_117 : decode cX4_takeOrderWord 117 = .ok (.aload_n 0, 1) := by decide +kernel
theorem dX4_takeOrderWord_118 : decode cX4_takeOrderWord 118 = .ok (.invokevirtual 65, 3) := by decide +kernel
theorem dX4_takeOrderWord_121 : decode cX4_takeOrderWord 121 = .ok (.istore 4, 2) := by decide +kernel
theorem dX4_takeOrderWord_123 : decode cX4_takeOrderWord 123 = .ok (.iload 4, 2) := by decide +kernel
theorem dX4_takeOrderWord_125 : decode cX4_takeOrderWord 125 = .ok (.ifCond .lt 20, 3) := by decide +kernel
theorem dX4_takeOrderWord_128 : decode cX4_takeOrderWord 128 = .ok (.iload 4, 2) := by decide +kernel
theorem dX4_takeOrderWord_130 : decode cX4_takeOrderWord 130 = .ok (.iload_n 3, 1) := by decide +kernel
theorem dX4_takeOrderWord_131 : decode cX4_takeOrderWord 131 = .ok (.iconst 4, 1) := by decide +kernel
theorem dX4_takeOrderWord_132 : decode cX4_takeOrderWord 132 = .ok (.if_icmp .ne 8, 3) := by decide +kernel
theorem dX4_takeOrderWord_135 : decode cX4_takeOrderWord 135 = .ok (.bipush 10, 2) := by decide +kernel
theorem dX4_takeOrderWord_137 : decode cX4_takeOrderWord 137 = .ok (.goto 5, 3) := by decide +kernel
theorem dX4_takeOrderWord_140 : decode cX4_takeOrderWord 140 = .ok (.bipush 6, 2) := by decide +kernel
theorem dX4_takeOrderWord_142 : decode cX4_takeOrderWord 142 = .ok (.if_icmp .lt 5, 3) := by decide +kernel
theorem dX4_takeOrderWord_145 : decode cX4_takeOrderWord 145 = .ok (.iconst (-1), 1) := by decide +kernel
theorem dX4_takeOrderWord_146 : decode cX4_takeOrderWord 146 = .ok (.ireturn, 1) := by decide +kernel
theorem dX4_takeOrderWord_147 : decode cX4_takeOrderWord 147 = .ok (.aload_n 0, 1) := by decide +kernel
theorem dX4_takeOrderWord_148 : decode cX4_takeOrderWord 148 = .ok (.dup, 1) := by decide +kernel
theorem dX4_takeOrderWord_149 : decode cX4_takeOrderWord 149 = .ok (.getfield 31, 3) := by decide +kernel
theorem dX4_takeOrderWord_152 : decode cX4_takeOrderWord 152 = .ok (.iconst 1, 1) := by decide +kernel
theorem dX4_takeOrderWord_153 : decode cX4_takeOrderWord 153 = .ok (.iadd, 1) := by decide +kernel
theorem dX4_takeOrderWord_154 : decode cX4_takeOrderWord 154 = .ok (.putfield 31, 3) := by decide +kernel
theorem dX4_takeOrderWord_157 : decode cX4_takeOrderWord 157 = .ok (.iload_n 3, 1) := by decide +kernel
theorem dX4_takeOrderWord_158 : decode cX4_takeOrderWord 158 = .ok (.iload 4, 2) := by decide +kernel
theorem dX4_takeOrderWord_160 : decode cX4_takeOrderWord 160 = .ok (.iadd, 1) := by decide +kernel
theorem dX4_takeOrderWord_161 : decode cX4_takeOrderWord 161 = .ok (.ireturn, 1) := by decide +kernel
theorem dX10_open_0 : decode cX10_open 0 = .ok (.aload_n 0, 1) := by decide +kernel
theorem dX10_open_1 : decode cX10_open 1 = .ok (.getfield 9, 3) := by decide +kernel
theorem dX10_open_4 : decode cX10_open 4 = .ok (.ifCond .lt 12, 3) := by decide +kernel
theorem dX10_open_7 : decode cX10_open 7 = .ok (.aload_n 0, 1) := by decide +kernel
theorem dX10_open_8 : decode cX10_open 8 = .ok (.getfield 9, 3) := by decide +kernel
theorem dX10_open_11 : decode cX10_open 11 = .ok (.bipush 12, 2) := by decide +kernel
theorem dX10_open_13 : decode cX10_open 13 = .ok (.if_icmp .lt 5, 3) := by decide +kernel
theorem dX10_open_18 : decode cX10_open 18 = .ok (.aload_n 0, 1) := by decide +kernel
theorem dX10_open_19 : decode cX10_open 19 = .ok (.getfield 15, 3) := by decide +kernel
theorem dX10_open_22 : decode cX10_open 22 = .ok (.aload_n 0, 1) := by decide +kernel
theorem dX10_open_23 : decode cX10_open 23 = .ok (.getfield 9, 3) := by decide +kernel
theorem dX10_open_26 : decode cX10_open 26 = .ok (.iload_n 1, 1) := by decide +kernel
theorem dX10_open_27 : decode cX10_open 27 = .ok (.iastore, 1) := by decide +kernel
theorem dX10_open_28 : decode cX10_open 28 = .ok (.aload_n 0, 1) := by decide +kernel
theorem dX10_open_29 : decode cX10_open 29 = .ok (.getfield 19, 3) := by decide +kernel
theorem dX10_open_32 : decode cX10_open 32 = .ok (.aload_n 0, 1) := by decide +kernel
theorem dX10_open_33 : decode cX10_open 33 = .ok (.getfield 9, 3) := by decide +kernel
theorem dX10_open_36 : decode cX10_open 36 = .ok (.iconst 1, 1) := by decide +kernel
theorem dX10_open_37 : decode cX10_open 37 = .ok (.iastore, 1) := by decide +kernel
theorem dX10_open_38 : decode cX10_open 38 = .ok (.aload_n 0, 1) := by decide +kernel
theorem dX10_open_39 : decode cX10_open 39 = .ok (.dup, 1) := by decide +kernel
theorem dX10_open_40 : decode cX10_open 40 = .ok (.getfield 9, 3) := by decide +kernel
theorem dX10_open_43 : decode cX10_open 43 = .ok (.iconst 1, 1) := by decide +kernel
theorem dX10_open_44 : decode cX10_open 44 = .ok (.iadd, 1) := by decide +kernel
theorem dX10_open_45 : decode cX10_open 45 = .ok (.putfield 9, 3) := by decide +kernel
theorem dX10_open_48 : decode cX10_open 48 = .ok (.iconst 1, 1) := by decide +kernel
theorem dX10_open_49 : decode cX10_open 49 = .ok (.ireturn, 1) := by decide +kernel
theorem dX10_repeat_0 : decode cX10_repeat 0 = .ok (.aload_n 0, 1) := by decide +kernel
theorem dX10_repeat_1 : decode cX10_repeat 1 = .ok (.getfield 9, 3) := by decide +kernel
theorem dX10_repeat_4 : decode cX10_repeat 4 = .ok (.ifCond .le 24, 3) := by decide +kernel
theorem dX10_repeat_7 : decode cX10_repeat 7 = .ok (.aload_n 0, 1) := by decide +kernel
theorem dX10_repeat_8 : decode cX10_repeat 8 = .ok (.getfield 9, 3) := by decide +kernel
theorem dX10_repeat_11 : decode cX10_repeat 11 = .ok (.bipush 12, 2) := by decide +kernel
theorem dX10_repeat_13 : decode cX10_repeat 13 = .ok (.if_icmp .gt 15, 3) := by decide +kernel
theorem dX10_repeat_16 : decode cX10_repeat 16 = .ok (.aload_n 0, 1) := by decide +kernel
theorem dX10_repeat_17 : decode cX10_repeat 17 = .ok (.getfield 19, 3) := by decide +kernel
theorem dX10_repeat_20 : decode cX10_repeat 20 = .ok (.aload_n 0, 1) := by decide +kernel
theorem dX10_repeat_21 : decode cX10_repeat 21 = .ok (.getfield 9, 3) := by decide +kernel
theorem dX10_repeat_24 : decode cX10_repeat 24 = .ok (.iconst 1, 1) := by decide +kernel
theorem dX10_repeat_25 : decode cX10_repeat 25 = .ok (.isub, 1) := by decide +kernel
theorem dX10_repeat_26 : decode cX10_repeat 26 = .ok (.iload_n 1, 1) := by decide +kernel
theorem dX10_repeat_27 : decode cX10_repeat 27 = .ok (.iastore, 1) := by decide +kernel
theorem dX10_repeat_28 : decode cX10_repeat 28 = .ok (.return_, 1) := by decide +kernel
theorem dX10_close_0 : decode cX10_close 0 = .ok (.aload_n 0, 1) := by decide +kernel
theorem dX10_close_1 : decode cX10_close 1 = .ok (.getfield 9, 3) := by decide +kernel
theorem dX10_close_4 : decode cX10_close 4 = .ok (.iconst 1, 1) := by decide +kernel
theorem dX10_close_5 : decode cX10_close 5 = .ok (.isub, 1) := by decide +kernel
theorem dX10_close_6 : decode cX10_close 6 = .ok (.iconst 3, 1) := by decide +kernel
theorem dX10_close_7 : decode cX10_close 7 = .ok (.imul, 1) := by decide +kernel
theorem dX10_close_8 : decode cX10_close 8 = .ok (.iload_n 1, 1) := by decide +kernel
theorem dX10_close_9 : decode cX10_close 9 = .ok (.iadd, 1) := by decide +kernel
theorem dX10_close_10 : decode cX10_close 10 = .ok (.iconst 1, 1) := by decide +kernel
theorem dX10_close_11 : decode cX10_close 11 = .ok (.iadd, 1) := by decide +kernel
theorem dX10_close_12 : decode cX10_close 12 = .ok (.istore_n 2, 1) := by decide +kernel
theorem dX10_close_13 : decode cX10_close 13 = .ok (.iload_n 2, 1) := by decide +kernel
theorem dX10_close_14 : decode cX10_close 14 = .ok (.ifCond .le 22, 3) := by decide +kernel
theorem dX10_close_17 : decode cX10_close 17 = .ok (.iload_n 2, 1) := by decide +kernel
theorem dX10_close_18 : decode cX10_close 18 = .ok (.aload_n 0, 1) := by decide +kernel
theorem dX10_close_19 : decode cX10_close 19 = .ok (.getfield 22, 3) := by decide +kernel
theorem dX10_close_22 : decode cX10_close 22 = .ok (.arraylength, 1) := by decide +kernel
theorem dX10_close_23 : decode cX10_close 23 = .ok (.if_icmp .ge 13, 3) := by decide +kernel
theorem dX10_close_26 : decode cX10_close 26 = .ok (.aload_n 0, 1) := by decide +kernel
theorem dX10_close_27 : decode cX10_close 27 = .ok (.getfield 22, 3) := by decide +kernel
theorem dX10_close_30 : decode cX10_close 30 = .ok (.iload_n 2, 1) := by decide +kernel
theorem dX10_close_31 : decode cX10_close 31 = .ok (.aload_n 0, 1) := by decide +kernel
theorem dX10_close_32 : decode cX10_close 32 = .ok (.getfield 25, 3) := by decide +kernel
theorem dX10_close_35 : decode cX10_close 35 = .ok (.iastore, 1) := by decide +kernel
theorem dX10_close_36 : decode cX10_close 36 = .ok (.return_, 1) := by decide +kernel
theorem dX10_emit_0 : decode cX10_emit 0 = .ok (.aload_n 0, 1) := by decide +kernel
theorem dX10_emit_1 : decode cX10_emit 1 = .ok (.getfield 25, 3) := by decide +kernel
theorem dX10_emit_4 : decode cX10_emit 4 = .ok (.ifCond .lt 15, 3) := by decide +kernel
theorem dX10_emit_7 : decode cX10_emit 7 = .ok (.aload_n 0, 1) := by decide +kernel
theorem dX10_emit_8 : decode cX10_emit 8 = .ok (.getfield 25, 3) := by decide +kernel
theorem dX10_emit_11 : decode cX10_emit 11 = .ok (.aload_n 0, 1) := by decide +kernel
theorem dX10_emit_12 : decode cX10_emit 12 = .ok (.getfield 34, 3) := by decide +kernel
theorem dX10_emit_15 : decode cX10_emit 15 = .ok (.arraylength, 1) := by decide +kernel
theorem dX10_emit_16 : decode cX10_emit 16 = .ok (.if_icmp .lt 5, 3) := by decide +kernel
theorem dX10_emit_19 : decode cX10_emit 19 = .ok (.iconst (-1), 1) := by decide +kernel
theorem dX10_emit_20 : decode cX10_emit 20 = .ok (.ireturn, 1) := by decide +kernel
theorem dX10_emit_21 : decode cX10_emit 21 = .ok (.aload_n 0, 1) := by decide +kernel
theorem dX10_emit_22 : decode cX10_emit 22 = .ok (.getfield 34, 3) := by decide +kernel
theorem dX10_emit_25 : decode cX10_emit 25 = .ok (.aload_n 0, 1) := by decide +kernel
theorem dX10_emit_26 : decode cX10_emit 26 = .ok (.getfield 25, 3) := by decide +kernel
theorem dX10_emit_29 : decode cX10_emit 29 = .ok (.iload_n 1, 1) := by decide +kernel
theorem dX10_emit_30 : decode cX10_emit 30 = .ok (.bipush 12, 2) := by decide +kernel
theorem dX10_emit_32 : decode cX10_emit 32 = .ok (.ishl, 1) := by decide +kernel
theorem dX10_emit_33 : decode cX10_emit 33 = .ok (.iload_n 2, 1) := by decide +kernel
theorem dX10_emit_34 : decode cX10_emit 34 = .ok (.sipush 4095, 3) := by decide +kernel
theorem dX10_emit_37 : decode cX10_emit 37 = .ok (.iand, 1) := by decide +kernel
theorem dX10_emit_38 : decode cX10_emit 38 = .ok (.ior, 1) := by decide +kernel
theorem dX10_emit_39 : decode cX10_emit 39 = .ok (.iastore, 1) := by decide +kernel
theorem dX10_emit_40 : decode cX10_emit 40 = .ok (.aload_n 0, 1) := by decide +kernel
theorem dX10_emit_41 : decode cX10_emit 41 = .ok (.dup, 1) := by decide +kernel
theorem dX10_emit_42 : decode cX10_emit 42 = .ok (.getfield 25, 3) := by decide +kernel
theorem dX10_emit_45 : decode cX10_emit 45 = .ok (.iconst 1, 1) := by decide +kernel
theorem dX10_emit_46 : decode cX10_emit 46 = .ok (.iadd, 1) := by decide +kernel
theorem dX10_emit_47 : decode cX10_emit 47 = .ok (.putfield 25, 3) := by decide +kernel
theorem dX10_emit_50 : decode cX10_emit 50 = .ok (.aload_n 0, 1) := by decide +kernel
theorem dX10_emit_51 : decode cX10_emit 51 = .ok (.getfield 25, 3) := by decide +kernel
theorem dX10_emit_54 : decode cX10_emit 54 = .ok (.iconst 1, 1) := by decide +kernel
theorem dX10_emit_55 : decode cX10_emit 55 = .ok (.isub, 1) := by decide +kernel
theorem dX10_emit_56 : decode cX10_emit 56 = .ok (.ireturn, 1) := by decide +kernel
theorem dX10_land_0 : decode cX10_land 0 = .ok (.iload_n 1, 1) := by decide +kernel
theorem dX10_land_1 : decode cX10_land 1 = .ok (.ifCond .lt 45, 3) := by decide +kernel
theorem dX10_land_4 : decode cX10_land 4 = .ok (.iload_n 1, 1) := by decide +kernel
theorem dX10_land_5 : decode cX10_land 5 = .ok (.aload_n 0, 1) := by decide +kernel
theorem dX10_land_6 : decode cX10_land 6 = .ok (.getfield 25, 3) := by decide +kernel
theorem dX10_land_9 : decode cX10_land 9 = .ok (.if_icmp .ge 37, 3) := by decide +kernel
theorem dX10_land_12 : decode cX10_land 12 = .ok (.iload_n 1, 1) := by decide +kernel
theorem dX10_land_13 : decode cX10_land 13 = .ok (.aload_n 0, 1) := by decide +kernel
theorem dX10_land_14 : decode cX10_land 14 = .ok (.getfield 34, 3) := by decide +kernel
theorem dX10_land_17 : decode cX10_land 17 = .ok (.arraylength, 1) := by decide +kernel
theorem dX10_land_18 : decode cX10_land 18 = .ok (.if_icmp .ge 28, 3) := by decide +kernel
theorem dX10_land_21 : decode cX10_land 21 = .ok (.aload_n 0, 1) := by decide +kernel
theorem dX10_land_22 : decode cX10_land 22 = .ok (.getfield 34, 3) := by decide +kernel
theorem dX10_land_25 : decode cX10_land 25 = .ok (.iload_n 1, 1) := by decide +kernel
theorem dX10_land_26 : decode cX10_land 26 = .ok (.aload_n 0, 1) := by decide +kernel
theorem dX10_land_27 : decode cX10_land 27 = .ok (.getfield 34, 3) := by decide +kernel
theorem dX10_land_30 : decode cX10_land 30 = .ok (.iload_n 1, 1) := by decide +kernel
theorem dX10_land_31 : decode cX10_land 31 = .ok (.iaload, 1) := by decide +kernel
theorem dX10_land_32 : decode cX10_land 32 = .ok (.sipush (-4096), 3) := by decide +kernel
theorem dX10_land_35 : decode cX10_land 35 = .ok (.iand, 1) := by decide +kernel
theorem dX10_land_36 : decode cX10_land 36 = .ok (.aload_n 0, 1) := by decide +kernel
theorem dX10_land_37 : decode cX10_land 37 = .ok (.getfield 25, 3) := by decide +kernel
theorem dX10_land_40 : decode cX10_land 40 = .ok (.sipush 4095, 3) := by decide +kernel
theorem dX10_land_43 : decode cX10_land 43 = .ok (.iand, 1) := by decide +kernel
theorem dX10_land_44 : decode cX10_land 44 = .ok (.ior, 1) := by decide +kernel
theorem dX10_land_45 : decode cX10_land 45 = .ok (.iastore, 1) := by decide +kernel
theorem dX10_land_46 : decode cX10_land 46 = .ok (.return_, 1) := by decide +kernel
theorem wt4_5 : Cond.code yX10_open cX10_open 2 (some .boolean) ∈ kG := kt4 5 rfl rfl
theorem wt4_41 : Cond.code yX10_repeat cX10_repeat 2 none ∈ kG := kt4 41 rfl rfl
theorem wt4_33 : Cond.code yX10_close cX10_close 3 none ∈ kG := kt4 33 rfl rfl
theorem wt4_17 : Cond.code yX10_emit cX10_emit 3 (some .int) ∈ kG := kt4 17 rfl rfl
theorem wt4_61 : Cond.code yX10_land cX10_land 2 none ∈ kG := kt4 61 rfl rfl
theorem wt4_1 : Cond.code yX4_inHand cX4_inHand 1 (some .int) ∈ kG := kt4 1 rfl rfl
theorem wt4_14 : Cond.methodLink RX4 122 yX10_emit ∈ kG := kt4 14 rfl rfl
theorem wt4_15 : Cond.instanceMethod yX10_emit ∈ kG := kt4 15 rfl rfl
theorem wt4_16 : Cond.selects RX10 yX10_emit yX10_emit ∈ kG := kt4 16 rfl rfl
theorem wt4_29 : Cond.code yX4_emitIfAny cX4_emitIfAny 2 none ∈ kG := kt4 29 rfl rfl
theorem wt4_25 : Cond.code yX4_takeLawWord cX4_takeLawWord 3 (some .int) ∈ kG := kt4 25 rfl rfl
theorem wt3_238 : Cond.methodLink RX4 65 yX4_inHand ∈ kG := kt3 238 rfl rfl
theorem wt4_0 : Cond.instanceMethod yX4_inHand ∈ kG := kt4 0 rfl rfl
theorem wp1_12 : Cond.selects RX4 yX4_inHand yX4_inHand ∈ kG := kp1 12 rfl rfl
theorem wt4_21 : Cond.code yX4_takeOrderWord cX4_takeOrderWord 5 (some .int) ∈ kG := kt4 21 rfl rfl
theorem wt4_38 : Cond.methodLink RX4 113 yX10_repeat ∈ kG := kt4 38 rfl rfl
theorem wt4_39 : Cond.instanceMethod yX10_repeat ∈ kG := kt4 39 rfl rfl
theorem wt4_40 : Cond.selects RX10 yX10_repeat yX10_repeat ∈ kG := kt4 40 rfl rfl
theorem wt4_37 : Cond.code yX4_readTimes cX4_readTimes 2 (some .boolean) ∈ kG := kt4 37 rfl rfl
theorem wt4_9 : Cond.code yX4_readSum cX4_readSum 6 (some .boolean) ∈ kG := kt4 9 rfl rfl
theorem wt4_13 : Cond.code yX4_readOperand cX4_readOperand 4 (some .boolean) ∈ kG := kt4 13 rfl rfl
theorem wt4_53 : Cond.code yX4_readTest cX4_readTest 6 (some .boolean) ∈ kG := kt4 53 rfl rfl
theorem wt4_57 : Cond.code yX4_readPlain cX4_readPlain 4 (some .boolean) ∈ kG := kt4 57 rfl rfl
theorem wt4_22 : Cond.methodLink RX4 135 yX4_takeLawWord ∈ kG := kt4 22 rfl rfl
theorem wt4_24 : Cond.instanceMethod yX4_takeLawWord ∈ kG := kt4 24 rfl rfl
theorem wp2_0 : Cond.selects RX4 yX4_takeLawWord yX4_takeLawWord ∈ kG := kp2 0 rfl rfl
theorem wt4_18 : Cond.methodLink RX4 131 yX4_takeOrderWord ∈ kG := kt4 18 rfl rfl
theorem wt4_20 : Cond.instanceMethod yX4_takeOrderWord ∈ kG := kt4 20 rfl rfl
theorem wp1_15 : Cond.selects RX4 yX4_takeOrderWord yX4_takeOrderWord ∈ kG := kp1 15 rfl rfl
theorem wt4_6 : Cond.methodLink RX4 107 yX4_readSum ∈ kG := kt4 6 rfl rfl
theorem wt4_8 : Cond.instanceMethod yX4_readSum ∈ kG := kt4 8 rfl rfl
theorem wp1_13 : Cond.selects RX4 yX4_readSum yX4_readSum ∈ kG := kp1 13 rfl rfl
theorem wt4_10 : Cond.methodLink RX4 128 yX4_readOperand ∈ kG := kt4 10 rfl rfl
theorem wt4_12 : Cond.instanceMethod yX4_readOperand ∈ kG := kt4 12 rfl rfl
theorem wp1_14 : Cond.selects RX4 yX4_readOperand yX4_readOperand ∈ kG := kp1 14 rfl rfl
theorem wt4_26 : Cond.methodLink RX4 125 yX4_emitIfAny ∈ kG := kt4 26 rfl rfl
theorem wt4_28 : Cond.instanceMethod yX4_emitIfAny ∈ kG := kt4 28 rfl rfl
theorem wp2_1 : Cond.selects RX4 yX4_emitIfAny yX4_emitIfAny ∈ kG := kp2 1 rfl rfl
theorem wt4_50 : Cond.methodLink RX4 68 yX4_readTest ∈ kG := kt4 50 rfl rfl
theorem wt4_52 : Cond.instanceMethod yX4_readTest ∈ kG := kt4 52 rfl rfl
theorem wp2_5 : Cond.selects RX4 yX4_readTest yX4_readTest ∈ kG := kp2 5 rfl rfl
theorem wt4_54 : Cond.methodLink RX4 116 yX4_readPlain ∈ kG := kt4 54 rfl rfl
theorem wt4_56 : Cond.instanceMethod yX4_readPlain ∈ kG := kt4 56 rfl rfl
theorem wp2_6 : Cond.selects RX4 yX4_readPlain yX4_readPlain ∈ kG := kp2 6 rfl rfl
theorem wt4_58 : Cond.methodLink RX4 119 yX10_land ∈ kG := kt4 58 rfl rfl
theorem wt4_59 : Cond.instanceMethod yX10_land ∈ kG := kt4 59 rfl rfl
theorem wt4_60 : Cond.selects RX10 yX10_land yX10_land ∈ kG := kt4 60 rfl rfl
theorem wt4_2 : Cond.methodLink RX4 104 yX10_open ∈ kG := kt4 2 rfl rfl
theorem wt4_3 : Cond.instanceMethod yX10_open ∈ kG := kt4 3 rfl rfl
theorem wt4_4 : Cond.selects RX10 yX10_open yX10_open ∈ kG := kt4 4 rfl rfl
theorem wt4_30 : Cond.methodLink RX4 72 yX10_close ∈ kG := kt4 30 rfl rfl
theorem wt4_31 : Cond.instanceMethod yX10_close ∈ kG := kt4 31 rfl rfl
theorem wt4_32 : Cond.selects RX10 yX10_close yX10_close ∈ kG := kt4 32 rfl rfl
theorem wt4_34 : Cond.methodLink RX4 110 yX4_readTimes ∈ kG := kt4 34 rfl rfl
theorem wt4_36 : Cond.instanceMethod yX4_readTimes ∈ kG := kt4 36 rfl rfl
theorem wp2_2 : Cond.selects RX4 yX4_readTimes yX4_readTimes ∈ kG := kp2 2 rfl rfl
theorem kc_2000 : kb 2000 2000 2000 := ⟨by decide +kernel, by decide +kernel⟩
theorem kc_2001 : kb 2001 2001 2001 := ⟨by decide +kernel, by decide +kernel⟩
theorem kc_2002 : kb 2002 2002 2002 := ⟨by decide +kernel, by decide +kernel⟩
theorem kc_2004 : kb 2004 2004 2004 := ⟨by decide +kernel, by decide +kernel⟩
theorem kc_2008 : kb 2008 2008 2008 := ⟨by decide +kernel, by decide +kernel⟩
theorem kc_2010 : kb 2010 2010 2010 := ⟨by decide +kernel, by decide +kernel⟩
theorem kc_2014 : kb 2014 2014 2014 := ⟨by decide +kernel, by decide +kernel⟩
theorem kc_2016 : kb 2016 2016 2016 := ⟨by decide +kernel, by decide +kernel⟩
theorem kc_2018 : kb 2018 2018 2018 := ⟨by decide +kernel, by decide +kernel⟩
theorem kc_2022 : kb 2022 2022 2022 := ⟨by decide +kernel, by decide +kernel⟩
theorem kc_2023 : kb 2023 2023 2023 := ⟨by decide +kernel, by decide +kernel⟩
theorem kc_2024 : kb 2024 2024 2024 := ⟨by decide +kernel, by decide +kernel⟩
theorem kc_2025 : kb 2025 2025 2025 := ⟨by decide +kernel, by decide +kernel⟩
theorem kc_2026 : kb 2026 2026 2026 := ⟨by decide +kernel, by decide +kernel⟩
theorem kc_2027 : kb 2027 2027 2027 := ⟨by decide +kernel, by decide +kernel⟩
theorem kc_3037 : kb 3037 3037 3037 := ⟨by decide +kernel, by decide +kernel⟩
theorem kc_3040 : kb 3040 3040 3040 := ⟨by decide +kernel, by decide +kernel⟩
theorem kc_3041 : kb 3041 3041 3041 := ⟨by decide +kernel, by decide +kernel⟩
theorem kc_3042 : kb 3042 3042 3042 := ⟨by decide +kernel, by decide +kernel⟩
theorem kc_3043 : kb 3043 3043 3043 := ⟨by decide +kernel, by decide +kernel⟩
theorem kc_3045 : kb 3045 3045 3045 := ⟨by decide +kernel, by decide +kernel⟩
theorem kc_3047 : kb 3047 3047 3047 := ⟨by decide +kernel, by decide +kernel⟩
theorem kc_3060 : kb 3060 3060 3060 := ⟨by decide +kernel, by decide +kernel⟩
theorem kc_3061 : kb 3061 3061 3061 := ⟨by decide +kernel, by decide +kernel⟩
theorem kc_3062 : kb 3062 3062 3062 := ⟨by decide +kernel, by decide +kernel⟩
theorem kc_3091 : kb 3091 3091 3091 := ⟨by decide +kernel, by decide +kernel⟩
theorem kc_3093 : kb 3093 3093 3093 := ⟨by decide +kernel, by decide +kernel⟩
theorem kc_4000 : kb 4000 4000 4000 := ⟨by decide +kernel, by decide +kernel⟩
theorem kc_401 : kb 401 401 401 := ⟨by decide +kernel, by decide +kernel⟩
set_option maxHeartbeats 4000000 in
set_option maxRecDepth 100000 in
theorem y_emit  (l : Launch) {D : va_G} {K : Nat → ClassId} (r : Nat → Nat) (f : Nat → Int32) (a : Nat → Nat → Int32) (g : xG) (tx tt : va_W) (hT : ∀ c ∈ tt, c ∈ tx) (hI : xI f a) (hG : gOK K g.2 tt) (op : Int32) (x : Int32) (bop : kb 0 op 12)   : kIG l yX10_emit (Cond.code yX10_emit cX10_emit 3 (some .int) :: kG) (rmD 1 0 0) D K [.ref (r 51), .int op, .int x] (xX K r f a g tx) (fun v (u : xS) => kb (-2147483648) v 2147483647 ∧ xI u.1 u.2.1 ∧ gOK K u.2.2.2 tt ∧ xEk [12, 13, 14, 32, 38, 44, 49, 50, 832, 838, 844, 849, 850, 1603, 1604, 1605, 1606, 1632] f a g u.1 u.2.1 u.2.2 ∧ (u.2.1 56 = a 56 ∧ u.2.1 57 = a 57)) (fun u => xX K r u.1 u.2.1 u.2.2 tx) 0 0 := by
  refine kIE.of (cc := cX10_emit) (maxL := 3) (ret := (some .int)) (by decide) rfl (Nat.le_of_ble_eq_true rfl) ?_
  intro p e s m below meth c A hx hb hr hml hown hts hlocks hnm hK hP hD hS hA hV ls hl
  have hE : xEk [12, 13, 14, 32, 38, 44, 49, 50, 832, 838, 844, 849, 850, 1603, 1604, 1605, 1606, 1632] f a g f a g := xEk_rf
  have hg : ∀ w ∈ kG, w.before _ s = true := fun w h => hts w (List.mem_cons_of_mem _ h)
  have hown : s.vm.findClass RX10 = some m.cls := hown
  have hl : lv_has ls 3 [(0, .ref (r 51)), (1, .int op), (2, .int x)] := hl
  have hk0 : a 56 = a 56 ∧ a 57 = a 57 := ⟨rfl, rfl⟩
  refine lv_aload_n hx hb dX10_emit_0 rfl (lv_at hl 0 rfl) ?_
  refine va_get (D := D) (ci := 10) (v := .int (f 1637)) (C := RX10) (T := TX10) (N := 6) hx hb hg inC10 hown hK hP 51 rfl rfl 5 (by decide) (hg _ wt2_50) (fun _ h9 => h9) rfl dX10_emit_1 ?_
  refine lv_topi (fun t1 et1 => ?_)
  have b2 : kb 0 t1 400 := kb_eq et1 (fI_at hI.1 1637 (by decide) (by decide))
  refine lv_if_lt (tgt := 19) hx hb dX10_emit_4 (by decide) (fun c3 => ?_) (fun c3 => ?_)
  · have h4 := (kc_lt c3)
    exact kb_no (kr_lt1 h4 b2 kc_0 (H := (-1)) (by decide)) (by decide)
  · have h5 := (kc_nlt c3)
    refine lv_aload_n hx hb dX10_emit_7 rfl (lv_at hl 0 rfl) ?_
    refine va_get (D := D) (ci := 10) (v := .int (f 1637)) (C := RX10) (T := TX10) (N := 6) hx hb hg inC10 hown hK hP 51 rfl rfl 5 (by decide) (hg _ wt2_50) (fun _ h9 => h9) rfl dX10_emit_8 ?_
    refine k_top (z := t1) et1.symm ?_
    refine lv_aload_n hx hb dX10_emit_11 rfl (lv_at hl 0 rfl) ?_
    refine va_get (D := D) (ci := 10) (v := .ref (r 55)) (C := RX10) (T := TX10) (N := 6) hx hb hg inC10 hown hK hP 51 rfl rfl 4 (by decide) (hg _ wt2_49) (fun _ h9 => h9) rfl dX10_emit_12 ?_
    refine va_alen (v := 400) hx hb hK hP 55 0 rfl rfl rfl dX10_emit_15 ?_
    refine lv_icmp_lt (tgt := 21) hx hb dX10_emit_16 (by decide) (fun c6 => ?_) (fun c6 => ?_)
    · have h7 := (kc_lt c6)
      have b8 : kb 0 t1 399 := kr_lt1 h7 b2 kc_400 (by decide)
      refine lv_aload_n hx hb dX10_emit_21 rfl (lv_at hl 0 rfl) ?_
      refine va_get (D := D) (ci := 10) (v := .ref (r 55)) (C := RX10) (T := TX10) (N := 6) hx hb hg inC10 hown hK hP 51 rfl rfl 4 (by decide) (hg _ wt2_49) (fun _ h9 => h9) rfl dX10_emit_22 ?_
      refine lv_aload_n hx hb dX10_emit_25 rfl (lv_at hl 0 rfl) ?_
      refine va_get (D := D) (ci := 10) (v := .int (f 1637)) (C := RX10) (T := TX10) (N := 6) hx hb hg inC10 hown hK hP 51 rfl rfl 5 (by decide) (hg _ wt2_50) (fun _ h9 => h9) rfl dX10_emit_26 ?_
      refine k_top (z := t1) et1.symm ?_
      refine lv_iload_n hx hb dX10_emit_29 rfl (lv_at hl 1 rfl) ?_
      refine lv_bipush (v := 12) hx hb dX10_emit_30 (by decide) ?_
      refine lv_ishl hx hb dX10_emit_32 ?_
      refine lv_topi (fun t9 et9 => ?_)
      have b10 : kb 0 t9 49152 := kb_eq et9 (kb_shl12 bop (by decide) (by decide))
      refine lv_iload_n hx hb dX10_emit_33 rfl (lv_at hl 2 rfl) ?_
      refine lv_sipush (v := 4095) hx hb dX10_emit_34 (by decide) ?_
      refine lv_iand hx hb dX10_emit_37 ?_
      refine lv_topi (fun t11 et11 => ?_)
      have b12 : kb 0 t11 4095 := kb_eq et11 (kb_and 12 (by decide) (by decide))
      refine lv_ior hx hb dX10_emit_38 ?_
      refine lv_topi (fun t13 et13 => ?_)
      have b14 : kb 0 t13 65535 := kb_eq et13 (kb_or 16 b10 b12 (by decide) (by decide) (by decide) (by decide) (by decide))
      refine va_iast hx hb hK hP hD hS 55 0 rfl rfl (kb_in b8 (by decide) (by decide)) dX10_emit_39 (fun H locs hP hD hS => ?_)
      have hP : va_P D vwCl (xX K r f (va_up a 55 (upd (a 55) t1.toNatClampNeg t13)) g tx) H := hP
      have hD : va_D A (xX K r f (va_up a 55 (upd (a 55) t1.toNatClampNeg t13)) g tx) := hD
      refine k_gen (P := fun z => va_P D vwCl (xX K r f z g tx) H ∧ va_D A (xX K r f z g tx) ∧ (xI f z) ∧ (gOK K g.2 tt) ∧ (xEk [12, 13, 14, 32, 38, 44, 49, 50, 832, 838, 844, 849, 850, 1603, 1604, 1605, 1606, 1632] f a g f z g) ∧ (z 56 = a 56 ∧ z 57 = a 57)) (va_up a 55 (upd (a 55) t1.toNatClampNeg t13)) ⟨hP, hD, (xI_55 hI b14), hG, (xEk_a hE (by decide)), (k56_a hk0 (by decide) (by decide))⟩ (fun a_15 ea_15 hq => ?_)
      obtain ⟨hP, hD, hI, hG, hE, hk0⟩ := hq
      refine lv_aload_n hx hb dX10_emit_40 rfl (lv_at hl 0 rfl) ?_
      refine lv_dup hx hb dX10_emit_41 rfl ?_
      refine va_get (D := D) (ci := 10) (v := .int (f 1637)) (C := RX10) (T := TX10) (N := 6) hx hb hg inC10 hown hK hP 51 rfl rfl 5 (by decide) (hg _ wt2_50) (fun _ h9 => h9) rfl dX10_emit_42 ?_
      refine k_top (z := t1) et1.symm ?_
      refine lv_iconst (v := 1) hx hb dX10_emit_45 (by decide) ?_
      refine lv_iadd hx hb dX10_emit_46 ?_
      refine lv_topi (fun t16 et16 => ?_)
      have b17 : kb 1 t16 400 := kb_eq et16 (kb_add b8 kc_1 (by decide) (by decide))
      have qt16 : t16.toInt = t1.toInt + 1 := by rw [et16]; exact kt_addc b8 kc_1 (by decide) (by decide)
      refine va_put (D := D) (ci := 10) (v := .int t16) (ty := .int) (C := RX10) (T := TX10) (N := 6) hx hb hg inC10 tyX10 tyX10_ok nmX10 hown hK hP hD hS 51 rfl rfl 5 (by decide) (hg _ wt2_50) (fun _ h9 => h9) rfl (by decide +kernel) rfl rfl (Nat.le_of_ble_eq_true rfl) dX10_emit_47 (fun H locs hP hD hS => ?_)
      have hP : va_P D vwCl (xX K r (upd f 1637 t16) a_15 g tx) H := hP
      have hD : va_D A (xX K r (upd f 1637 t16) a_15 g tx) := hD
      refine k_gen (P := fun z => va_P D vwCl (xX K r z a_15 g tx) H ∧ va_D A (xX K r z a_15 g tx) ∧ (xI z a_15) ∧ (gOK K g.2 tt) ∧ (xEk [12, 13, 14, 32, 38, 44, 49, 50, 832, 838, 844, 849, 850, 1603, 1604, 1605, 1606, 1632] f a g z a_15 g) ∧ (a_15 56 = a 56 ∧ a_15 57 = a 57)) (upd f 1637 t16) ⟨hP, hD, (xI_f hI (fI_st hI.1 1637 b17 (by decide) (by decide))), hG, (xEk_f hE (by decide)), hk0⟩ (fun f_18 ef_18 hq => ?_)
      obtain ⟨hP, hD, hI, hG, hE, hk0⟩ := hq
      refine lv_aload_n hx hb dX10_emit_50 rfl (lv_at hl 0 rfl) ?_
      refine va_get (D := D) (ci := 10) (v := .int (f_18 1637)) (C := RX10) (T := TX10) (N := 6) hx hb hg inC10 hown hK hP 51 rfl rfl 5 (by decide) (hg _ wt2_50) (fun _ h9 => h9) rfl dX10_emit_51 ?_
      refine k_top (z := t16) (show f_18 1637 = t16 from by rw [← ef_18]; rfl) ?_
      refine lv_iconst (v := 1) hx hb dX10_emit_54 (by decide) ?_
      refine lv_isub hx hb dX10_emit_55 ?_
      refine lv_topi (fun t19 et19 => ?_)
      have b20 : kb 0 t19 399 := kb_eq et19 (kb_sub b17 kc_1 (by decide) (by decide))
      have qt19 : t19.toInt = t16.toInt - 1 := by rw [et19]; exact kt_subc b17 kc_1 (by decide) (by decide)
      exact kI_ret (v := t19) hx hb hr hlocks rfl hK hS dX10_emit_56 (f_18, a_15, g) hP hD ⟨(kb_w b20 (by decide) (by decide)), hI, hG, hE, hk0⟩
    · have h21 := (kc_nlt c6)
      have b22 : kb 400 t1 400 := kr_le2 h21 kc_400 b2
      refine lv_iconst (v := (-1)) hx hb dX10_emit_19 (by decide) ?_
      exact kI_ret (v := (-1)) hx hb hr hlocks rfl hK hS dX10_emit_20 (f, a, g) hP hD ⟨(kb_w kc_m1 (by decide) (by decide)), hI, hG, hE, hk0⟩
set_option maxHeartbeats 4000000 in
set_option maxRecDepth 100000 in
theorem y_land  (l : Launch) {D : va_G} {K : Nat → ClassId} (r : Nat → Nat) (f : Nat → Int32) (a : Nat → Nat → Int32) (g : xG) (tx tt : va_W) (hT : ∀ c ∈ tt, c ∈ tx) (hI : xI f a) (hG : gOK K g.2 tt) (x : Int32)    : kVG l yX10_land (Cond.code yX10_land cX10_land 2 none :: kG) (rmD 1 0 0) D K [.ref (r 51), .int x] (xX K r f a g tx) (fun (u : xS) => xI u.1 u.2.1 ∧ gOK K u.2.2.2 tt ∧ xEk [12, 13, 14, 32, 38, 44, 49, 50, 832, 838, 844, 849, 850, 1603, 1604, 1605, 1606, 1632] f a g u.1 u.2.1 u.2.2 ∧ (u.2.1 56 = a 56 ∧ u.2.1 57 = a 57)) (fun u => xX K r u.1 u.2.1 u.2.2 tx) 0 0 := by
  refine kVG.of (cc := cX10_land) (maxL := 2) (ret := none) (by decide) rfl (Nat.le_of_ble_eq_true rfl) ?_
  intro p e s m below meth c A hx hb hr hml hown hts hlocks hnm hK hP hD hS hA hV ls hl
  have hE : xEk [12, 13, 14, 32, 38, 44, 49, 50, 832, 838, 844, 849, 850, 1603, 1604, 1605, 1606, 1632] f a g f a g := xEk_rf
  have hg : ∀ w ∈ kG, w.before _ s = true := fun w h => hts w (List.mem_cons_of_mem _ h)
  have hown : s.vm.findClass RX10 = some m.cls := hown
  have hl : lv_has ls 2 [(0, .ref (r 51)), (1, .int x)] := hl
  have hk0 : a 56 = a 56 ∧ a 57 = a 57 := ⟨rfl, rfl⟩
  refine lv_iload_n hx hb dX10_land_0 rfl (lv_at hl 1 rfl) ?_
  refine lv_if_lt (tgt := 46) hx hb dX10_land_1 (by decide) (fun c1 => ?_) (fun c1 => ?_)
  · have h2 := (kc_lt c1)
    have b3 : kb (-2147483648) x (-1) := kr_lt1 h2 (kb_any x) kc_0 (by decide)
    exact kV_ret hx hb hr hlocks hK hS dX10_land_46 (f, a, g) hP hD ⟨hI, hG, hE, hk0⟩
  · have h4 := (kc_nlt c1)
    have b5 : kb 0 x 2147483647 := kr_le2 h4 kc_0 (kb_any x)
    refine lv_iload_n hx hb dX10_land_4 rfl (lv_at hl 1 rfl) ?_
    refine lv_aload_n hx hb dX10_land_5 rfl (lv_at hl 0 rfl) ?_
    refine va_get (D := D) (ci := 10) (v := .int (f 1637)) (C := RX10) (T := TX10) (N := 6) hx hb hg inC10 hown hK hP 51 rfl rfl 5 (by decide) (hg _ wt2_50) (fun _ h9 => h9) rfl dX10_land_6 ?_
    refine lv_topi (fun t6 et6 => ?_)
    have b7 : kb 0 t6 400 := kb_eq et6 (fI_at hI.1 1637 (by decide) (by decide))
    refine lv_icmp_ge (tgt := 46) hx hb dX10_land_9 (by decide) (fun c8 => ?_) (fun c8 => ?_)
    · have h9 := (kc_le c8)
      exact kV_ret hx hb hr hlocks hK hS dX10_land_46 (f, a, g) hP hD ⟨hI, hG, hE, hk0⟩
    · have h10 := (kc_nle c8)
      have b11 : kb 0 x 399 := kr_lt1 h10 b5 b7 (by decide)
      have b12 : kb 1 t6 400 := kr_lt2 h10 b5 b7 (by decide)
      refine lv_iload_n hx hb dX10_land_12 rfl (lv_at hl 1 rfl) ?_
      refine lv_aload_n hx hb dX10_land_13 rfl (lv_at hl 0 rfl) ?_
      refine va_get (D := D) (ci := 10) (v := .ref (r 55)) (C := RX10) (T := TX10) (N := 6) hx hb hg inC10 hown hK hP 51 rfl rfl 4 (by decide) (hg _ wt2_49) (fun _ h9 => h9) rfl dX10_land_14 ?_
      refine va_alen (v := 400) hx hb hK hP 55 0 rfl rfl rfl dX10_land_17 ?_
      refine lv_icmp_ge (tgt := 46) hx hb dX10_land_18 (by decide) (fun c13 => ?_) (fun c13 => ?_)
      · have h14 := (kc_le c13)
        exact kb_no (kr_le1 h14 kc_400 b11) (by decide)
      · have h15 := (kc_nle c13)
        refine lv_aload_n hx hb dX10_land_21 rfl (lv_at hl 0 rfl) ?_
        refine va_get (D := D) (ci := 10) (v := .ref (r 55)) (C := RX10) (T := TX10) (N := 6) hx hb hg inC10 hown hK hP 51 rfl rfl 4 (by decide) (hg _ wt2_49) (fun _ h9 => h9) rfl dX10_land_22 ?_
        refine lv_iload_n hx hb dX10_land_25 rfl (lv_at hl 1 rfl) ?_
        refine lv_aload_n hx hb dX10_land_26 rfl (lv_at hl 0 rfl) ?_
        refine va_get (D := D) (ci := 10) (v := .ref (r 55)) (C := RX10) (T := TX10) (N := 6) hx hb hg inC10 hown hK hP 51 rfl rfl 4 (by decide) (hg _ wt2_49) (fun _ h9 => h9) rfl dX10_land_27 ?_
        refine lv_iload_n hx hb dX10_land_30 rfl (lv_at hl 1 rfl) ?_
        refine va_iald hx hb hK hP 55 0 rfl rfl (kb_in b11 (by decide) (by decide)) dX10_land_31 ?_
        refine lv_topi (fun t16 et16 => ?_)
        have b17 : kb 0 t16 65535 := kb_eq et16 (xI_c hI _)
        refine lv_sipush (v := (-4096)) hx hb dX10_land_32 (by decide) ?_
        refine lv_iand hx hb dX10_land_35 ?_
        refine lv_topi (fun t18 et18 => ?_)
        have b19 : kb 0 t18 65535 := kb_eq et18 (kb_andN b17 (by decide))
        refine lv_aload_n hx hb dX10_land_36 rfl (lv_at hl 0 rfl) ?_
        refine va_get (D := D) (ci := 10) (v := .int (f 1637)) (C := RX10) (T := TX10) (N := 6) hx hb hg inC10 hown hK hP 51 rfl rfl 5 (by decide) (hg _ wt2_50) (fun _ h9 => h9) rfl dX10_land_37 ?_
        refine k_top (z := t6) et6.symm ?_
        refine lv_sipush (v := 4095) hx hb dX10_land_40 (by decide) ?_
        refine lv_iand hx hb dX10_land_43 ?_
        refine lv_topi (fun t20 et20 => ?_)
        have b21 : kb 0 t20 4095 := kb_eq et20 (kb_and 12 (by decide) (by decide))
        refine lv_ior hx hb dX10_land_44 ?_
        refine lv_topi (fun t22 et22 => ?_)
        have b23 : kb 0 t22 65535 := kb_eq et22 (kb_or 16 b19 b21 (by decide) (by decide) (by decide) (by decide) (by decide))
        refine va_iast hx hb hK hP hD hS 55 0 rfl rfl (kb_in b11 (by decide) (by decide)) dX10_land_45 (fun H locs hP hD hS => ?_)
        have hP : va_P D vwCl (xX K r f (va_up a 55 (upd (a 55) x.toNatClampNeg t22)) g tx) H := hP
        have hD : va_D A (xX K r f (va_up a 55 (upd (a 55) x.toNatClampNeg t22)) g tx) := hD
        refine k_gen (P := fun z => va_P D vwCl (xX K r f z g tx) H ∧ va_D A (xX K r f z g tx) ∧ (xI f z) ∧ (gOK K g.2 tt) ∧ (xEk [12, 13, 14, 32, 38, 44, 49, 50, 832, 838, 844, 849, 850, 1603, 1604, 1605, 1606, 1632] f a g f z g) ∧ (z 56 = a 56 ∧ z 57 = a 57)) (va_up a 55 (upd (a 55) x.toNatClampNeg t22)) ⟨hP, hD, (xI_55 hI b23), hG, (xEk_a hE (by decide)), (k56_a hk0 (by decide) (by decide))⟩ (fun a_24 ea_24 hq => ?_)
        obtain ⟨hP, hD, hI, hG, hE, hk0⟩ := hq
        exact kV_ret hx hb hr hlocks hK hS dX10_land_46 (f, a_24, g) hP hD ⟨hI, hG, hE, hk0⟩
set_option maxHeartbeats 4000000 in
set_option maxRecDepth 100000 in
theorem y_repeat  (l : Launch) {D : va_G} {K : Nat → ClassId} (r : Nat → Nat) (f : Nat → Int32) (a : Nat → Nat → Int32) (g : xG) (tx tt : va_W) (hT : ∀ c ∈ tt, c ∈ tx) (hI : xI f a) (hG : gOK K g.2 tt) (x : Int32)    : kVG l yX10_repeat (Cond.code yX10_repeat cX10_repeat 2 none :: kG) (rmD 1 0 0) D K [.ref (r 51), .int x] (xX K r f a g tx) (fun (u : xS) => xI u.1 u.2.1 ∧ gOK K u.2.2.2 tt ∧ xEk [12, 13, 14, 32, 38, 44, 49, 50, 832, 838, 844, 849, 850, 1603, 1604, 1605, 1606, 1632] f a g u.1 u.2.1 u.2.2 ∧ (u.2.1 56 = a 56 ∧ u.2.1 57 = a 57)) (fun u => xX K r u.1 u.2.1 u.2.2 tx) 0 0 := by
  refine kVG.of (cc := cX10_repeat) (maxL := 2) (ret := none) (by decide) rfl (Nat.le_of_ble_eq_true rfl) ?_
  intro p e s m below meth c A hx hb hr hml hown hts hlocks hnm hK hP hD hS hA hV ls hl
  have hE : xEk [12, 13, 14, 32, 38, 44, 49, 50, 832, 838, 844, 849, 850, 1603, 1604, 1605, 1606, 1632] f a g f a g := xEk_rf
  have hg : ∀ w ∈ kG, w.before _ s = true := fun w h => hts w (List.mem_cons_of_mem _ h)
  have hown : s.vm.findClass RX10 = some m.cls := hown
  have hl : lv_has ls 2 [(0, .ref (r 51)), (1, .int x)] := hl
  have hk0 : a 56 = a 56 ∧ a 57 = a 57 := ⟨rfl, rfl⟩
  refine lv_aload_n hx hb dX10_repeat_0 rfl (lv_at hl 0 rfl) ?_
  refine va_get (D := D) (ci := 10) (v := .int (f 1632)) (C := RX10) (T := TX10) (N := 6) hx hb hg inC10 hown hK hP 51 rfl rfl 0 (by decide) (hg _ wt2_40) (fun _ h9 => h9) rfl dX10_repeat_1 ?_
  refine lv_topi (fun t1 et1 => ?_)
  have b2 : kb 0 t1 12 := kb_eq et1 (fI_at hI.1 1632 (by decide) (by decide))
  refine lv_if_le (tgt := 28) hx hb dX10_repeat_4 (by decide) (fun c3 => ?_) (fun c3 => ?_)
  · have h4 := (kc_le c3)
    have b5 : kb 0 t1 0 := kr_le1 h4 b2 kc_0
    exact kV_ret hx hb hr hlocks hK hS dX10_repeat_28 (f, a, g) hP hD ⟨hI, hG, hE, hk0⟩
  · have h6 := (kc_nle c3)
    have b7 : kb 1 t1 12 := kr_lt2 h6 kc_0 b2 (by decide)
    refine lv_aload_n hx hb dX10_repeat_7 rfl (lv_at hl 0 rfl) ?_
    refine va_get (D := D) (ci := 10) (v := .int (f 1632)) (C := RX10) (T := TX10) (N := 6) hx hb hg inC10 hown hK hP 51 rfl rfl 0 (by decide) (hg _ wt2_40) (fun _ h9 => h9) rfl dX10_repeat_8 ?_
    refine k_top (z := t1) et1.symm ?_
    refine lv_bipush (v := 12) hx hb dX10_repeat_11 (by decide) ?_
    refine lv_icmp_gt (tgt := 28) hx hb dX10_repeat_13 (by decide) (fun c8 => ?_) (fun c8 => ?_)
    · have h9 := (kc_lt c8)
      exact kb_no (kr_lt1 h9 kc_12 b7 (H := 11) (by decide)) (by decide)
    · have h10 := (kc_nlt c8)
      refine lv_aload_n hx hb dX10_repeat_16 rfl (lv_at hl 0 rfl) ?_
      refine va_get (D := D) (ci := 10) (v := .ref (r 53)) (C := RX10) (T := TX10) (N := 6) hx hb hg inC10 hown hK hP 51 rfl rfl 2 (by decide) (hg _ wt2_46) (fun _ h9 => h9) rfl dX10_repeat_17 ?_
      refine lv_aload_n hx hb dX10_repeat_20 rfl (lv_at hl 0 rfl) ?_
      refine va_get (D := D) (ci := 10) (v := .int (f 1632)) (C := RX10) (T := TX10) (N := 6) hx hb hg inC10 hown hK hP 51 rfl rfl 0 (by decide) (hg _ wt2_40) (fun _ h9 => h9) rfl dX10_repeat_21 ?_
      refine k_top (z := t1) et1.symm ?_
      refine lv_iconst (v := 1) hx hb dX10_repeat_24 (by decide) ?_
      refine lv_isub hx hb dX10_repeat_25 ?_
      refine lv_topi (fun t11 et11 => ?_)
      have b12 : kb 0 t11 11 := kb_eq et11 (kb_sub b7 kc_1 (by decide) (by decide))
      have qt11 : t11.toInt = t1.toInt - 1 := by rw [et11]; exact kt_subc b7 kc_1 (by decide) (by decide)
      refine lv_iload_n hx hb dX10_repeat_26 rfl (lv_at hl 1 rfl) ?_
      refine va_iast hx hb hK hP hD hS 53 0 rfl rfl (kb_in b12 (by decide) (by decide)) dX10_repeat_27 (fun H locs hP hD hS => ?_)
      have hP : va_P D vwCl (xX K r f (va_up a 53 (upd (a 53) t11.toNatClampNeg x)) g tx) H := hP
      have hD : va_D A (xX K r f (va_up a 53 (upd (a 53) t11.toNatClampNeg x)) g tx) := hD
      refine k_gen (P := fun z => va_P D vwCl (xX K r f z g tx) H ∧ va_D A (xX K r f z g tx) ∧ (xI f z) ∧ (gOK K g.2 tt) ∧ (xEk [12, 13, 14, 32, 38, 44, 49, 50, 832, 838, 844, 849, 850, 1603, 1604, 1605, 1606, 1632] f a g f z g) ∧ (z 56 = a 56 ∧ z 57 = a 57)) (va_up a 53 (upd (a 53) t11.toNatClampNeg x)) ⟨hP, hD, (xI_a hI (by decide)), hG, (xEk_a hE (by decide)), (k56_a hk0 (by decide) (by decide))⟩ (fun a_13 ea_13 hq => ?_)
      obtain ⟨hP, hD, hI, hG, hE, hk0⟩ := hq
      exact kV_ret hx hb hr hlocks hK hS dX10_repeat_28 (f, a_13, g) hP hD ⟨hI, hG, hE, hk0⟩
set_option maxHeartbeats 4000000 in
set_option maxRecDepth 100000 in
theorem y_close  (l : Launch) {D : va_G} {K : Nat → ClassId} (r : Nat → Nat) (f : Nat → Int32) (a : Nat → Nat → Int32) (g : xG) (tx tt : va_W) (hT : ∀ c ∈ tt, c ∈ tx) (hI : xI f a) (hG : gOK K g.2 tt) (pc_ : Int32) (bpc_ : kb 0 pc_ 2)   : kVG l yX10_close (Cond.code yX10_close cX10_close 3 none :: kG) (rmD 1 0 0) D K [.ref (r 51), .int pc_] (xX K r f a g tx) (fun (u : xS) => xI u.1 u.2.1 ∧ gOK K u.2.2.2 tt ∧ xEk [12, 13, 14, 32, 38, 44, 49, 50, 832, 838, 844, 849, 850, 1603, 1604, 1605, 1606, 1632] f a g u.1 u.2.1 u.2.2 ∧ (u.2.1 56 = a 56 ∧ u.2.1 57 = a 57)) (fun u => xX K r u.1 u.2.1 u.2.2 tx) 0 0 := by
  refine kVG.of (cc := cX10_close) (maxL := 3) (ret := none) (by decide) rfl (Nat.le_of_ble_eq_true rfl) ?_
  intro p e s m below meth c A hx hb hr hml hown hts hlocks hnm hK hP hD hS hA hV ls hl
  have hE : xEk [12, 13, 14, 32, 38, 44, 49, 50, 832, 838, 844, 849, 850, 1603, 1604, 1605, 1606, 1632] f a g f a g := xEk_rf
  have hg : ∀ w ∈ kG, w.before _ s = true := fun w h => hts w (List.mem_cons_of_mem _ h)
  have hown : s.vm.findClass RX10 = some m.cls := hown
  have hl : lv_has ls 3 [(0, .ref (r 51)), (1, .int pc_)] := hl
  have hk0 : a 56 = a 56 ∧ a 57 = a 57 := ⟨rfl, rfl⟩
  refine lv_aload_n hx hb dX10_close_0 rfl (lv_at hl 0 rfl) ?_
  refine va_get (D := D) (ci := 10) (v := .int (f 1632)) (C := RX10) (T := TX10) (N := 6) hx hb hg inC10 hown hK hP 51 rfl rfl 0 (by decide) (hg _ wt2_40) (fun _ h9 => h9) rfl dX10_close_1 ?_
  refine lv_topi (fun t1 et1 => ?_)
  have b2 : kb 0 t1 12 := kb_eq et1 (fI_at hI.1 1632 (by decide) (by decide))
  refine lv_iconst (v := 1) hx hb dX10_close_4 (by decide) ?_
  refine lv_isub hx hb dX10_close_5 ?_
  refine lv_topi (fun t3 et3 => ?_)
  have b4 : kb (-1) t3 11 := kb_eq et3 (kb_sub b2 kc_1 (by decide) (by decide))
  have qt3 : t3.toInt = t1.toInt - 1 := by rw [et3]; exact kt_subc b2 kc_1 (by decide) (by decide)
  refine lv_iconst (v := 3) hx hb dX10_close_6 (by decide) ?_
  refine lv_imul hx hb dX10_close_7 ?_
  refine lv_topi (fun t5 et5 => ?_)
  refine lv_iload_n hx hb dX10_close_8 rfl (lv_at hl 1 rfl) ?_
  refine lv_iadd hx hb dX10_close_9 ?_
  refine lv_topi (fun t6 et6 => ?_)
  refine lv_iconst (v := 1) hx hb dX10_close_10 (by decide) ?_
  refine lv_iadd hx hb dX10_close_11 ?_
  refine lv_topi (fun t7 et7 => ?_)
  refine lv_istore_n (lv' := [(2, .int t7), (0, .ref (r 51)), (1, .int pc_)]) hx hb dX10_close_12 rfl hl (by decide) rfl (fun ls hl => ?_)
  refine lv_iload_n hx hb dX10_close_13 rfl (lv_at hl 0 rfl) ?_
  refine lv_if_le (tgt := 36) hx hb dX10_close_14 (by decide) (fun c8 => ?_) (fun c8 => ?_)
  · have h9 := (kc_le c8)
    have b10 : kb (-2147483648) t7 0 := kr_le1 h9 (kb_any t7) kc_0
    exact kV_ret hx hb hr hlocks hK hS dX10_close_36 (f, a, g) hP hD ⟨hI, hG, hE, hk0⟩
  · have h11 := (kc_nle c8)
    have b12 : kb 1 t7 2147483647 := kr_lt2 h11 kc_0 (kb_any t7) (by decide)
    refine lv_iload_n hx hb dX10_close_17 rfl (lv_at hl 0 rfl) ?_
    refine lv_aload_n hx hb dX10_close_18 rfl (lv_at hl 1 rfl) ?_
    refine va_get (D := D) (ci := 10) (v := .ref (r 54)) (C := RX10) (T := TX10) (N := 6) hx hb hg inC10 hown hK hP 51 rfl rfl 3 (by decide) (hg _ wt2_48) (fun _ h9 => h9) rfl dX10_close_19 ?_
    refine va_alen (v := 37) hx hb hK hP 54 0 rfl rfl rfl dX10_close_22 ?_
    refine lv_icmp_ge (tgt := 36) hx hb dX10_close_23 (by decide) (fun c13 => ?_) (fun c13 => ?_)
    · have h14 := (kc_le c13)
      have b15 : kb 37 t7 2147483647 := kr_le2 h14 kc_37 b12
      exact kV_ret hx hb hr hlocks hK hS dX10_close_36 (f, a, g) hP hD ⟨hI, hG, hE, hk0⟩
    · have h16 := (kc_nle c13)
      have b17 : kb 1 t7 36 := kr_lt1 h16 b12 kc_37 (by decide)
      refine lv_aload_n hx hb dX10_close_26 rfl (lv_at hl 1 rfl) ?_
      refine va_get (D := D) (ci := 10) (v := .ref (r 54)) (C := RX10) (T := TX10) (N := 6) hx hb hg inC10 hown hK hP 51 rfl rfl 3 (by decide) (hg _ wt2_48) (fun _ h9 => h9) rfl dX10_close_27 ?_
      refine lv_iload_n hx hb dX10_close_30 rfl (lv_at hl 0 rfl) ?_
      refine lv_aload_n hx hb dX10_close_31 rfl (lv_at hl 1 rfl) ?_
      refine va_get (D := D) (ci := 10) (v := .int (f 1637)) (C := RX10) (T := TX10) (N := 6) hx hb hg inC10 hown hK hP 51 rfl rfl 5 (by decide) (hg _ wt2_50) (fun _ h9 => h9) rfl dX10_close_32 ?_
      refine lv_topi (fun t18 et18 => ?_)
      have b19 : kb 0 t18 400 := kb_eq et18 (fI_at hI.1 1637 (by decide) (by decide))
      refine va_iast hx hb hK hP hD hS 54 0 rfl rfl (kb_in b17 (by decide) (by decide)) dX10_close_35 (fun H locs hP hD hS => ?_)
      have hP : va_P D vwCl (xX K r f (va_up a 54 (upd (a 54) t7.toNatClampNeg t18)) g tx) H := hP
      have hD : va_D A (xX K r f (va_up a 54 (upd (a 54) t7.toNatClampNeg t18)) g tx) := hD
      refine k_gen (P := fun z => va_P D vwCl (xX K r f z g tx) H ∧ va_D A (xX K r f z g tx) ∧ (xI f z) ∧ (gOK K g.2 tt) ∧ (xEk [12, 13, 14, 32, 38, 44, 49, 50, 832, 838, 844, 849, 850, 1603, 1604, 1605, 1606, 1632] f a g f z g) ∧ (z 56 = a 56 ∧ z 57 = a 57)) (va_up a 54 (upd (a 54) t7.toNatClampNeg t18)) ⟨hP, hD, (xI_a hI (by decide)), hG, (xEk_a hE (by decide)), (k56_a hk0 (by decide) (by decide))⟩ (fun a_20 ea_20 hq => ?_)
      obtain ⟨hP, hD, hI, hG, hE, hk0⟩ := hq
      exact kV_ret hx hb hr hlocks hK hS dX10_close_36 (f, a_20, g) hP hD ⟨hI, hG, hE, hk0⟩
set_option maxHeartbeats 4000000 in
set_option maxRecDepth 100000 in
theorem y_open  (l : Launch) {D : va_G} {K : Nat → ClassId} (r : Nat → Nat) (f : Nat → Int32) (a : Nat → Nat → Int32) (g : xG) (tx tt : va_W) (hT : ∀ c ∈ tt, c ∈ tx) (hI : xI f a) (hG : gOK K g.2 tt) (x : Int32)  (cn : Nat) (hp0 : (f 1632).toInt = (cn : Int)) (hp1 : cn < 12) : kIG l yX10_open (Cond.code yX10_open cX10_open 2 (some .boolean) :: kG) (rmD 1 0 0) D K [.ref (r 51), .int x] (xX K r f a g tx) (fun v (u : xS) => kb 1 v 1 ∧ xI u.1 u.2.1 ∧ gOK K u.2.2.2 tt ∧ xEk [12, 13, 14, 32, 38, 44, 49, 50, 832, 838, 844, 849, 850, 1603, 1604, 1605, 1606] f a g u.1 u.2.1 u.2.2 ∧ (u.2.1 56 = a 56 ∧ u.2.1 57 = a 57) ∧ (u.1 1632).toInt = ((cn + 1 : Nat) : Int)) (fun u => xX K r u.1 u.2.1 u.2.2 tx) 0 0 := by
  refine kIE.of (cc := cX10_open) (maxL := 2) (ret := (some .boolean)) (by decide) rfl (Nat.le_of_ble_eq_true rfl) ?_
  intro p e s m below meth c A hx hb hr hml hown hts hlocks hnm hK hP hD hS hA hV ls hl
  have hE : xEk [12, 13, 14, 32, 38, 44, 49, 50, 832, 838, 844, 849, 850, 1603, 1604, 1605, 1606] f a g f a g := xEk_rf
  have hg : ∀ w ∈ kG, w.before _ s = true := fun w h => hts w (List.mem_cons_of_mem _ h)
  have hown : s.vm.findClass RX10 = some m.cls := hown
  have hl : lv_has ls 2 [(0, .ref (r 51)), (1, .int x)] := hl
  have hk0 : a 56 = a 56 ∧ a 57 = a 57 := ⟨rfl, rfl⟩
  obtain ⟨cC, ecC⟩ : ∃ z : Int32, z = f 1632 := ⟨_, rfl⟩
  have hcC : cC.toInt = (cn : Int) := by rw [ecC]; exact hp0
  have b1 : kb 0 cC 11 := ⟨by omega, by have w1 := hp1; omega⟩
  refine lv_aload_n hx hb dX10_open_0 rfl (lv_at hl 0 rfl) ?_
  refine va_get (D := D) (ci := 10) (v := .int (f 1632)) (C := RX10) (T := TX10) (N := 6) hx hb hg inC10 hown hK hP 51 rfl rfl 0 (by decide) (hg _ wt2_40) (fun _ h9 => h9) rfl dX10_open_1 ?_
  refine k_top (z := cC) ecC.symm ?_
  refine lv_if_lt (tgt := 16) hx hb dX10_open_4 (by decide) (fun c2 => ?_) (fun c2 => ?_)
  · have h3 := (kc_lt c2)
    exact kb_no (kr_lt1 h3 b1 kc_0 (H := (-1)) (by decide)) (by decide)
  · have h4 := (kc_nlt c2)
    refine lv_aload_n hx hb dX10_open_7 rfl (lv_at hl 0 rfl) ?_
    refine va_get (D := D) (ci := 10) (v := .int (f 1632)) (C := RX10) (T := TX10) (N := 6) hx hb hg inC10 hown hK hP 51 rfl rfl 0 (by decide) (hg _ wt2_40) (fun _ h9 => h9) rfl dX10_open_8 ?_
    refine k_top (z := cC) ecC.symm ?_
    refine lv_bipush (v := 12) hx hb dX10_open_11 (by decide) ?_
    refine lv_icmp_lt (tgt := 18) hx hb dX10_open_13 (by decide) (fun c5 => ?_) (fun c5 => ?_)
    · have h6 := (kc_lt c5)
      refine lv_aload_n hx hb dX10_open_18 rfl (lv_at hl 0 rfl) ?_
      refine va_get (D := D) (ci := 10) (v := .ref (r 52)) (C := RX10) (T := TX10) (N := 6) hx hb hg inC10 hown hK hP 51 rfl rfl 1 (by decide) (hg _ wt2_43) (fun _ h9 => h9) rfl dX10_open_19 ?_
      refine lv_aload_n hx hb dX10_open_22 rfl (lv_at hl 0 rfl) ?_
      refine va_get (D := D) (ci := 10) (v := .int (f 1632)) (C := RX10) (T := TX10) (N := 6) hx hb hg inC10 hown hK hP 51 rfl rfl 0 (by decide) (hg _ wt2_40) (fun _ h9 => h9) rfl dX10_open_23 ?_
      refine k_top (z := cC) ecC.symm ?_
      refine lv_iload_n hx hb dX10_open_26 rfl (lv_at hl 1 rfl) ?_
      refine va_iast hx hb hK hP hD hS 52 0 rfl rfl (kb_in b1 (by decide) (by decide)) dX10_open_27 (fun H locs hP hD hS => ?_)
      have hP : va_P D vwCl (xX K r f (va_up a 52 (upd (a 52) cC.toNatClampNeg x)) g tx) H := hP
      have hD : va_D A (xX K r f (va_up a 52 (upd (a 52) cC.toNatClampNeg x)) g tx) := hD
      refine k_gen (P := fun z => va_P D vwCl (xX K r f z g tx) H ∧ va_D A (xX K r f z g tx) ∧ (xI f z) ∧ (gOK K g.2 tt) ∧ (xEk [12, 13, 14, 32, 38, 44, 49, 50, 832, 838, 844, 849, 850, 1603, 1604, 1605, 1606] f a g f z g) ∧ (z 56 = a 56 ∧ z 57 = a 57)) (va_up a 52 (upd (a 52) cC.toNatClampNeg x)) ⟨hP, hD, (xI_a hI (by decide)), hG, (xEk_a hE (by decide)), (k56_a hk0 (by decide) (by decide))⟩ (fun a_7 ea_7 hq => ?_)
      obtain ⟨hP, hD, hI, hG, hE, hk0⟩ := hq
      refine lv_aload_n hx hb dX10_open_28 rfl (lv_at hl 0 rfl) ?_
      refine va_get (D := D) (ci := 10) (v := .ref (r 53)) (C := RX10) (T := TX10) (N := 6) hx hb hg inC10 hown hK hP 51 rfl rfl 2 (by decide) (hg _ wt2_46) (fun _ h9 => h9) rfl dX10_open_29 ?_
      refine lv_aload_n hx hb dX10_open_32 rfl (lv_at hl 0 rfl) ?_
      refine va_get (D := D) (ci := 10) (v := .int (f 1632)) (C := RX10) (T := TX10) (N := 6) hx hb hg inC10 hown hK hP 51 rfl rfl 0 (by decide) (hg _ wt2_40) (fun _ h9 => h9) rfl dX10_open_33 ?_
      refine k_top (z := cC) ecC.symm ?_
      refine lv_iconst (v := 1) hx hb dX10_open_36 (by decide) ?_
      refine va_iast hx hb hK hP hD hS 53 0 rfl rfl (kb_in b1 (by decide) (by decide)) dX10_open_37 (fun H locs hP hD hS => ?_)
      have hP : va_P D vwCl (xX K r f (va_up a_7 53 (upd (a_7 53) cC.toNatClampNeg 1)) g tx) H := hP
      have hD : va_D A (xX K r f (va_up a_7 53 (upd (a_7 53) cC.toNatClampNeg 1)) g tx) := hD
      refine k_gen (P := fun z => va_P D vwCl (xX K r f z g tx) H ∧ va_D A (xX K r f z g tx) ∧ (xI f z) ∧ (gOK K g.2 tt) ∧ (xEk [12, 13, 14, 32, 38, 44, 49, 50, 832, 838, 844, 849, 850, 1603, 1604, 1605, 1606] f a g f z g) ∧ (z 56 = a 56 ∧ z 57 = a 57)) (va_up a_7 53 (upd (a_7 53) cC.toNatClampNeg 1)) ⟨hP, hD, (xI_a hI (by decide)), hG, (xEk_a hE (by decide)), (k56_a hk0 (by decide) (by decide))⟩ (fun a_8 ea_8 hq => ?_)
      obtain ⟨hP, hD, hI, hG, hE, hk0⟩ := hq
      refine lv_aload_n hx hb dX10_open_38 rfl (lv_at hl 0 rfl) ?_
      refine lv_dup hx hb dX10_open_39 rfl ?_
      refine va_get (D := D) (ci := 10) (v := .int (f 1632)) (C := RX10) (T := TX10) (N := 6) hx hb hg inC10 hown hK hP 51 rfl rfl 0 (by decide) (hg _ wt2_40) (fun _ h9 => h9) rfl dX10_open_40 ?_
      refine k_top (z := cC) ecC.symm ?_
      refine lv_iconst (v := 1) hx hb dX10_open_43 (by decide) ?_
      refine lv_iadd hx hb dX10_open_44 ?_
      refine lv_topi (fun t9 et9 => ?_)
      have b10 : kb 1 t9 12 := kb_eq et9 (kb_add b1 kc_1 (by decide) (by decide))
      have qt9 : t9.toInt = cC.toInt + 1 := by rw [et9]; exact kt_addc b1 kc_1 (by decide) (by decide)
      refine va_put (D := D) (ci := 10) (v := .int t9) (ty := .int) (C := RX10) (T := TX10) (N := 6) hx hb hg inC10 tyX10 tyX10_ok nmX10 hown hK hP hD hS 51 rfl rfl 0 (by decide) (hg _ wt2_40) (fun _ h9 => h9) rfl (by decide +kernel) rfl rfl (Nat.le_of_ble_eq_true rfl) dX10_open_45 (fun H locs hP hD hS => ?_)
      have hP : va_P D vwCl (xX K r (upd f 1632 t9) a_8 g tx) H := hP
      have hD : va_D A (xX K r (upd f 1632 t9) a_8 g tx) := hD
      refine k_gen (P := fun z => va_P D vwCl (xX K r z a_8 g tx) H ∧ va_D A (xX K r z a_8 g tx) ∧ (xI z a_8) ∧ (gOK K g.2 tt) ∧ (xEk [12, 13, 14, 32, 38, 44, 49, 50, 832, 838, 844, 849, 850, 1603, 1604, 1605, 1606] f a g z a_8 g) ∧ (a_8 56 = a 56 ∧ a_8 57 = a 57)) (upd f 1632 t9) ⟨hP, hD, (xI_f hI (fI_st hI.1 1632 b10 (by decide) (by decide))), hG, (xEk_f hE (by decide)), hk0⟩ (fun f_11 ef_11 hq => ?_)
      obtain ⟨hP, hD, hI, hG, hE, hk0⟩ := hq
      refine lv_iconst (v := 1) hx hb dX10_open_48 (by decide) ?_
      exact kI_ret (v := 1) hx hb hr hlocks (by decide +kernel) hK hS dX10_open_49 (f_11, a_8, g) hP hD ⟨kc_1, hI, hG, hE, hk0, (by show (f_11 1632).toInt = ((cn + 1 : Nat) : Int); rw [(show f_11 1632 = t9 from by rw [← ef_11]; rfl)]; have w1 := qt9; omega)⟩
    · have h12 := (kc_nlt c5)
      exact kb_no (kr_le1 h12 kc_12 b1) (by decide)
set_option maxHeartbeats 4000000 in
set_option maxRecDepth 100000 in
theorem y_inHand  (l : Launch) {D : va_G} {K : Nat → ClassId} (r : Nat → Nat) (f : Nat → Int32) (a : Nat → Nat → Int32) (g : xG) (tx tt : va_W) (hT : ∀ c ∈ tt, c ∈ tx) (hI : xI f a) (hG : gOK K g.2 tt)   (N i : Nat) (ob : Bool) (T pl : Nat → Int32) (hp0 : xQ f a N ob T pl) (hp1 : (f 1604).toInt = (i : Int)) (hp2 : i ≤ N) : kIG l yX4_inHand (Cond.code yX4_inHand cX4_inHand 1 (some .int) :: kG) (rmD 1 0 0) D K [.ref (r 50)] (xX K r f a g tx) (fun v (_ : Unit) => kb (-2147483648) v 2147483647 ∧ v = T i) (fun _ => xX K r f a g tx) 0 0 := by
  refine kIE.of (cc := cX4_inHand) (maxL := 1) (ret := (some .int)) (by decide) rfl (Nat.le_of_ble_eq_true rfl) ?_
  intro p e s m below meth c A hx hb hr hml hown hts hlocks hnm hK hP hD hS hA hV ls hl
  have hg : ∀ w ∈ kG, w.before _ s = true := fun w h => hts w (List.mem_cons_of_mem _ h)
  have hown : s.vm.findClass RX4 = some m.cls := hown
  have hl : lv_has ls 1 [(0, .ref (r 50))] := hl
  have hk0 := hp0
  have hN4 := hp0.2.1
  obtain ⟨cz4, ecz4⟩ : ∃ z : Int32, z = f 1604 := ⟨_, rfl⟩
  have hg0 : cz4.toInt = (i : Int) := by rw [ecz4]; exact hp1
  have b1 : kb 0 cz4 400 := kb_pos hp2 hN4 hg0
  obtain ⟨cz3, ecz3⟩ : ∃ z : Int32, z = f 1603 := ⟨_, rfl⟩
  have hs3 : cz3.toInt = (N : Int) + 1 := by rw [ecz3]; exact hp0.1
  have b2 : kb 1 cz3 401 := ⟨by omega, by omega⟩
  refine lv_aload_n hx hb dX4_inHand_0 rfl (lv_at hl 0 rfl) ?_
  refine va_get (D := D) (ci := 4) (v := .int (f 1604)) (C := RX4) (T := TX4) (N := 7) hx hb hg inC4 hown hK hP 50 rfl rfl 4 (by decide) (hg _ wt2_69) (fun _ h9 => h9) rfl dX4_inHand_1 ?_
  refine k_top (z := cz4) ecz4.symm ?_
  refine lv_if_lt (tgt := 42) hx hb dX4_inHand_4 (by decide) (fun c3 => ?_) (fun c3 => ?_)
  · have h4 := (kc_lt c3)
    exact kb_no (kr_lt1 h4 b1 kc_0 (H := (-1)) (by decide)) (by decide)
  · have h5 := (kc_nlt c3)
    refine lv_aload_n hx hb dX4_inHand_7 rfl (lv_at hl 0 rfl) ?_
    refine va_get (D := D) (ci := 4) (v := .int (f 1604)) (C := RX4) (T := TX4) (N := 7) hx hb hg inC4 hown hK hP 50 rfl rfl 4 (by decide) (hg _ wt2_69) (fun _ h9 => h9) rfl dX4_inHand_8 ?_
    refine k_top (z := cz4) ecz4.symm ?_
    refine lv_aload_n hx hb dX4_inHand_11 rfl (lv_at hl 0 rfl) ?_
    refine va_get (D := D) (ci := 4) (v := .int (f 1603)) (C := RX4) (T := TX4) (N := 7) hx hb hg inC4 hown hK hP 50 rfl rfl 3 (by decide) (hg _ wt2_68) (fun _ h9 => h9) rfl dX4_inHand_12 ?_
    refine k_top (z := cz3) ecz3.symm ?_
    refine lv_icmp_ge (tgt := 42) hx hb dX4_inHand_15 (by decide) (fun c6 => ?_) (fun c6 => ?_)
    · have h7 := (kc_le c6)
      have b8 : kb 1 cz3 400 := kr_le1 h7 b2 b1
      have b9 : kb 1 cz4 400 := kr_le2 h7 b2 b1
      refine lv_sipush (v := 4000) hx hb dX4_inHand_42 (by decide) ?_
      exact kI_ret (v := 4000) hx hb hr hlocks rfl hK hS dX4_inHand_45 () hP hD ⟨(kb_w kc_4000 (by decide) (by decide)), (by exfalso; have w1 := hs3; have w2 := hg0; have w3 := hp2; first | (have w9 := kc_nlt c6; omega) | (have w9 := kc_nle c6; omega) | (have w9 := kc_lt c6; omega) | (have w9 := kc_le c6; omega))⟩
    · have h10 := (kc_nle c6)
      refine lv_aload_n hx hb dX4_inHand_18 rfl (lv_at hl 0 rfl) ?_
      refine va_get (D := D) (ci := 4) (v := .int (f 1604)) (C := RX4) (T := TX4) (N := 7) hx hb hg inC4 hown hK hP 50 rfl rfl 4 (by decide) (hg _ wt2_69) (fun _ h9 => h9) rfl dX4_inHand_19 ?_
      refine k_top (z := cz4) ecz4.symm ?_
      refine lv_aload_n hx hb dX4_inHand_22 rfl (lv_at hl 0 rfl) ?_
      refine va_get (D := D) (ci := 4) (v := .ref (r 56)) (C := RX4) (T := TX4) (N := 7) hx hb hg inC4 hown hK hP 50 rfl rfl 1 (by decide) (hg _ wt2_66) (fun _ h9 => h9) rfl dX4_inHand_23 ?_
      refine va_alen (v := 401) hx hb hK hP 56 0 rfl rfl rfl dX4_inHand_26 ?_
      refine lv_icmp_ge (tgt := 42) hx hb dX4_inHand_27 (by decide) (fun c11 => ?_) (fun c11 => ?_)
      · have h12 := (kc_le c11)
        exact kb_no (kr_le1 h12 kc_401 b1) (by decide)
      · have h13 := (kc_nle c11)
        refine lv_aload_n hx hb dX4_inHand_30 rfl (lv_at hl 0 rfl) ?_
        refine va_get (D := D) (ci := 4) (v := .ref (r 56)) (C := RX4) (T := TX4) (N := 7) hx hb hg inC4 hown hK hP 50 rfl rfl 1 (by decide) (hg _ wt2_66) (fun _ h9 => h9) rfl dX4_inHand_31 ?_
        refine lv_aload_n hx hb dX4_inHand_34 rfl (lv_at hl 0 rfl) ?_
        refine va_get (D := D) (ci := 4) (v := .int (f 1604)) (C := RX4) (T := TX4) (N := 7) hx hb hg inC4 hown hK hP 50 rfl rfl 4 (by decide) (hg _ wt2_69) (fun _ h9 => h9) rfl dX4_inHand_35 ?_
        refine k_top (z := cz4) ecz4.symm ?_
        refine va_iald hx hb hK hP 56 0 rfl rfl (kb_in b1 (by decide) (by decide)) dX4_inHand_38 ?_
        refine lv_topi (fun t14 et14 => ?_)
        refine lv_goto (tgt := 45) hx hb dX4_inHand_39 (by decide) ?_
        exact kI_ret (v := t14) hx hb hr hlocks rfl hK hS dX4_inHand_45 () hP hD ⟨(kb_any t14), (et14.trans ((congrArg (a 56) (cl_nat hg0)).trans (hp0.2.2.2.1 i hp2)))⟩
set_option maxHeartbeats 4000000 in
set_option maxRecDepth 100000 in
theorem y_placeInHand  (l : Launch) {D : va_G} {K : Nat → ClassId} (r : Nat → Nat) (f : Nat → Int32) (a : Nat → Nat → Int32) (g : xG) (tx tt : va_W) (hT : ∀ c ∈ tt, c ∈ tx) (hI : xI f a) (hG : gOK K g.2 tt)   (N i : Nat) (ob : Bool) (T pl : Nat → Int32) (hp0 : xQ f a N ob T pl) (hp1 : (f 1604).toInt = (i : Int)) (hp2 : i ≤ N) : kIG l yX4_placeInHand (Cond.code yX4_placeInHand cX4_placeInHand 1 (some .int) :: kG) (rmD 1 0 0) D K [.ref (r 50)] (xX K r f a g tx) (fun v (_ : Unit) => kb (-2147483648) v 2147483647 ∧ v = pl i) (fun _ => xX K r f a g tx) 0 0 := by
  refine kIE.of (cc := cX4_placeInHand) (maxL := 1) (ret := (some .int)) (by decide) rfl (Nat.le_of_ble_eq_true rfl) ?_
  intro p e s m below meth c A hx hb hr hml hown hts hlocks hnm hK hP hD hS hA hV ls hl
  have hg : ∀ w ∈ kG, w.before _ s = true := fun w h => hts w (List.mem_cons_of_mem _ h)
  have hown : s.vm.findClass RX4 = some m.cls := hown
  have hl : lv_has ls 1 [(0, .ref (r 50))] := hl
  have hk0 := hp0
  have hN4 := hp0.2.1
  obtain ⟨cz4, ecz4⟩ : ∃ z : Int32, z = f 1604 := ⟨_, rfl⟩
  have hg0 : cz4.toInt = (i : Int) := by rw [ecz4]; exact hp1
  have b1 : kb 0 cz4 400 := kb_pos hp2 hN4 hg0
  obtain ⟨cz3, ecz3⟩ : ∃ z : Int32, z = f 1603 := ⟨_, rfl⟩
  have hs3 : cz3.toInt = (N : Int) + 1 := by rw [ecz3]; exact hp0.1
  have b2 : kb 1 cz3 401 := ⟨by omega, by omega⟩
  refine lv_aload_n hx hb dX4_placeInHand_0 rfl (lv_at hl 0 rfl) ?_
  refine va_get (D := D) (ci := 4) (v := .int (f 1604)) (C := RX4) (T := TX4) (N := 7) hx hb hg inC4 hown hK hP 50 rfl rfl 4 (by decide) (hg _ wt2_69) (fun _ h9 => h9) rfl dX4_placeInHand_1 ?_
  refine k_top (z := cz4) ecz4.symm ?_
  refine lv_if_lt (tgt := 42) hx hb dX4_placeInHand_4 (by decide) (fun c3 => ?_) (fun c3 => ?_)
  · have h4 := (kc_lt c3)
    exact kb_no (kr_lt1 h4 b1 kc_0 (H := (-1)) (by decide)) (by decide)
  · have h5 := (kc_nlt c3)
    refine lv_aload_n hx hb dX4_placeInHand_7 rfl (lv_at hl 0 rfl) ?_
    refine va_get (D := D) (ci := 4) (v := .int (f 1604)) (C := RX4) (T := TX4) (N := 7) hx hb hg inC4 hown hK hP 50 rfl rfl 4 (by decide) (hg _ wt2_69) (fun _ h9 => h9) rfl dX4_placeInHand_8 ?_
    refine k_top (z := cz4) ecz4.symm ?_
    refine lv_aload_n hx hb dX4_placeInHand_11 rfl (lv_at hl 0 rfl) ?_
    refine va_get (D := D) (ci := 4) (v := .int (f 1603)) (C := RX4) (T := TX4) (N := 7) hx hb hg inC4 hown hK hP 50 rfl rfl 3 (by decide) (hg _ wt2_68) (fun _ h9 => h9) rfl dX4_placeInHand_12 ?_
    refine k_top (z := cz3) ecz3.symm ?_
    refine lv_icmp_ge (tgt := 42) hx hb dX4_placeInHand_15 (by decide) (fun c6 => ?_) (fun c6 => ?_)
    · have h7 := (kc_le c6)
      have b8 : kb 1 cz3 400 := kr_le1 h7 b2 b1
      have b9 : kb 1 cz4 400 := kr_le2 h7 b2 b1
      refine lv_iconst (v := 0) hx hb dX4_placeInHand_42 (by decide) ?_
      exact kI_ret (v := 0) hx hb hr hlocks rfl hK hS dX4_placeInHand_43 () hP hD ⟨(kb_w kc_0 (by decide) (by decide)), (by exfalso; have w1 := hs3; have w2 := hg0; have w3 := hp2; first | (have w9 := kc_nlt c6; omega) | (have w9 := kc_nle c6; omega) | (have w9 := kc_lt c6; omega) | (have w9 := kc_le c6; omega))⟩
    · have h10 := (kc_nle c6)
      refine lv_aload_n hx hb dX4_placeInHand_18 rfl (lv_at hl 0 rfl) ?_
      refine va_get (D := D) (ci := 4) (v := .int (f 1604)) (C := RX4) (T := TX4) (N := 7) hx hb hg inC4 hown hK hP 50 rfl rfl 4 (by decide) (hg _ wt2_69) (fun _ h9 => h9) rfl dX4_placeInHand_19 ?_
      refine k_top (z := cz4) ecz4.symm ?_
      refine lv_aload_n hx hb dX4_placeInHand_22 rfl (lv_at hl 0 rfl) ?_
      refine va_get (D := D) (ci := 4) (v := .ref (r 57)) (C := RX4) (T := TX4) (N := 7) hx hb hg inC4 hown hK hP 50 rfl rfl 2 (by decide) (hg _ wt2_67) (fun _ h9 => h9) rfl dX4_placeInHand_23 ?_
      refine va_alen (v := 401) hx hb hK hP 57 0 rfl rfl rfl dX4_placeInHand_26 ?_
      refine lv_icmp_ge (tgt := 42) hx hb dX4_placeInHand_27 (by decide) (fun c11 => ?_) (fun c11 => ?_)
      · have h12 := (kc_le c11)
        exact kb_no (kr_le1 h12 kc_401 b1) (by decide)
      · have h13 := (kc_nle c11)
        refine lv_aload_n hx hb dX4_placeInHand_30 rfl (lv_at hl 0 rfl) ?_
        refine va_get (D := D) (ci := 4) (v := .ref (r 57)) (C := RX4) (T := TX4) (N := 7) hx hb hg inC4 hown hK hP 50 rfl rfl 2 (by decide) (hg _ wt2_67) (fun _ h9 => h9) rfl dX4_placeInHand_31 ?_
        refine lv_aload_n hx hb dX4_placeInHand_34 rfl (lv_at hl 0 rfl) ?_
        refine va_get (D := D) (ci := 4) (v := .int (f 1604)) (C := RX4) (T := TX4) (N := 7) hx hb hg inC4 hown hK hP 50 rfl rfl 4 (by decide) (hg _ wt2_69) (fun _ h9 => h9) rfl dX4_placeInHand_35 ?_
        refine k_top (z := cz4) ecz4.symm ?_
        refine va_iald hx hb hK hP 57 0 rfl rfl (kb_in b1 (by decide) (by decide)) dX4_placeInHand_38 ?_
        refine lv_topi (fun t14 et14 => ?_)
        refine lv_goto (tgt := 43) hx hb dX4_placeInHand_39 (by decide) ?_
        exact kI_ret (v := t14) hx hb hr hlocks rfl hK hS dX4_placeInHand_43 () hP hD ⟨(kb_any t14), (et14.trans ((congrArg (a 57) (cl_nat hg0)).trans (hp0.2.2.2.2.1 i hp2)))⟩
set_option maxHeartbeats 4000000 in
set_option maxRecDepth 100000 in
theorem y_emitIfAny  (l : Launch) {D : va_G} {K : Nat → ClassId} (r : Nat → Nat) (f : Nat → Int32) (a : Nat → Nat → Int32) (g : xG) (tx tt : va_W) (hT : ∀ c ∈ tt, c ∈ tx) (hI : xI f a) (hG : gOK K g.2 tt) (op : Int32) (bop : kb (-1) op 12)   : kVG l yX4_emitIfAny (Cond.code yX4_emitIfAny cX4_emitIfAny 2 none :: kG) (rmD 2 0 0) D K [.ref (r 50), .int op] (xX K r f a g tx) (fun (u : xS) => xI u.1 u.2.1 ∧ gOK K u.2.2.2 tt ∧ xEk [12, 13, 14, 32, 38, 44, 49, 50, 832, 838, 844, 849, 850, 1603, 1604, 1605, 1606, 1632] f a g u.1 u.2.1 u.2.2 ∧ (u.2.1 56 = a 56 ∧ u.2.1 57 = a 57)) (fun u => xX K r u.1 u.2.1 u.2.2 tx) 0 0 := by
  refine kVG.of (cc := cX4_emitIfAny) (maxL := 2) (ret := none) (by decide) rfl (Nat.le_of_ble_eq_true rfl) ?_
  intro p e s m below meth c A hx hb hr hml hown hts hlocks hnm hK hP hD hS hA hV ls hl
  have hE : xEk [12, 13, 14, 32, 38, 44, 49, 50, 832, 838, 844, 849, 850, 1603, 1604, 1605, 1606, 1632] f a g f a g := xEk_rf
  have hg : ∀ w ∈ kG, w.before _ s = true := fun w h => hts w (List.mem_cons_of_mem _ h)
  have hown : s.vm.findClass RX4 = some m.cls := hown
  have hl : lv_has ls 2 [(0, .ref (r 50)), (1, .int op)] := hl
  have hk0 : a 56 = a 56 ∧ a 57 = a 57 := ⟨rfl, rfl⟩
  refine lv_iload_n hx hb dX4_emitIfAny_0 rfl (lv_at hl 1 rfl) ?_
  refine lv_iconst (v := (-1)) hx hb dX4_emitIfAny_1 (by decide) ?_
  refine lv_icmp_eq (tgt := 15) hx hb dX4_emitIfAny_2 (by decide) (fun c1 => ?_) (fun c1 => ?_)
  · have b2 : kb (-1) op (-1) := kb_eq c1 kc_m1
    exact kV_ret hx hb hr hlocks hK hS dX4_emitIfAny_15 (f, a, g) hP hD ⟨hI, hG, hE, hk0⟩
  · have b3 : kb 0 op 12 := kr_nel c1 bop kc_m1 (by decide)
    refine lv_aload_n hx hb dX4_emitIfAny_5 rfl (lv_at hl 0 rfl) ?_
    refine va_get (D := D) (ci := 4) (v := .ref (r 51)) (C := RX4) (T := TX4) (N := 7) hx hb hg inC4 hown hK hP 50 rfl rfl 0 (by decide) (hg _ wt2_64) (fun _ h9 => h9) rfl dX4_emitIfAny_6 ?_
    refine lv_iload_n hx hb dX4_emitIfAny_9 rfl (lv_at hl 1 rfl) ?_
    refine lv_iconst (v := 0) hx hb dX4_emitIfAny_10 (by decide) ?_
    refine kIG.callW (As := [.int op, .int 0]) (rest := []) ⟨hx, hb, hml, hown, hg⟩ (y_emit l r f a g tx tt hT hI hG op 0 b3 ) (cwV 2 hg (kgV wt4_14 wt4_15 wt4_16 wt1_8 wt4_17) rfl rfl rfl (by decide +kernel) ⟨by decide, by decide⟩) hV hK hP hD hS hA (51) 10 rfl rfl rfl hl.1 rfl (Nat.le_of_ble_eq_true rfl) dX4_emitIfAny_11 ⟨Nat.le_refl _, Nat.le_refl _⟩ (fun v5 u6 H locs hw4 hP hD hS => ?_)
    obtain ⟨f7, a8, g9⟩ := u6
    have hP : va_P D vwCl (xX K r f7 a8 g9 tx) H := hP
    have hD : va_D A (xX K r f7 a8 g9 tx) := hD
    have hI : xI f7 a8 := hw4.2.1
    have hG : gOK K g9.2 tt := hw4.2.2.1
    have eE10 : xEk [12, 13, 14, 32, 38, 44, 49, 50, 832, 838, 844, 849, 850, 1603, 1604, 1605, 1606, 1632] f a g f7 a8 g9 := hw4.2.2.2.1
    have hE : xEk [12, 13, 14, 32, 38, 44, 49, 50, 832, 838, 844, 849, 850, 1603, 1604, 1605, 1606, 1632] f a g f7 a8 g9 := xEk_tr hE eE10
    have hk0 : a8 56 = a 56 ∧ a8 57 = a 57 := ⟨(hw4.2.2.2.2).1.trans hk0.1, (hw4.2.2.2.2).2.trans hk0.2⟩
    refine lv_pop hx hb dX4_emitIfAny_14 rfl ?_
    exact kV_ret hx hb hr hlocks hK hS dX4_emitIfAny_15 (f7, a8, g9) hP hD ⟨hI, hG, hE, hk0⟩
set_option maxHeartbeats 4000000 in
set_option maxRecDepth 100000 in
theorem y_takeLawWord  (l : Launch) {D : va_G} {K : Nat → ClassId} (r : Nat → Nat) (f : Nat → Int32) (a : Nat → Nat → Int32) (g : xG) (tx tt : va_W) (hT : ∀ c ∈ tt, c ∈ tx) (hI : xI f a) (hG : gOK K g.2 tt) (x : Int32) (bx : kb 0 x 4000) (N i : Nat) (ob : Bool) (T pl : Nat → Int32) (hp0 : xQ f a N ob T pl) (hp1 : (f 1604).toInt = (i : Int)) (hp2 : i ≤ N) (hp3 : x = T i) : kIG l yX4_takeLawWord (Cond.code yX4_takeLawWord cX4_takeLawWord 3 (some .int) :: kG) (rmD 1 0 0) D K [.ref (r 50), .int x] (xX K r f a g tx) (fun v (u : xS) => kb (-2147483648) v 2147483647 ∧ xI u.1 u.2.1 ∧ gOK K u.2.2.2 tt ∧ xEk [12, 13, 14, 32, 38, 44, 49, 50, 832, 838, 844, 849, 850, 1603, 1606, 1632, 1605] f a g u.1 u.2.1 u.2.2 ∧ xQ u.1 u.2.1 N ob T pl ∧ ((¬ v = -1 ∧ kb 2008 x 2017 ∧ (u.1 1604).toInt = ((i + 1 : Nat) : Int) ∧ i < N) ∨ (v = -1 ∧ ¬ kb 2008 x 2017 ∧ (u.1 1604).toInt = (i : Int)))) (fun u => xX K r u.1 u.2.1 u.2.2 tx) 0 0 := by
  refine kIE.of (cc := cX4_takeLawWord) (maxL := 3) (ret := (some .int)) (by decide) rfl (Nat.le_of_ble_eq_true rfl) ?_
  intro p e s m below meth c A hx hb hr hml hown hts hlocks hnm hK hP hD hS hA hV ls hl
  have hE : xEk [12, 13, 14, 32, 38, 44, 49, 50, 832, 838, 844, 849, 850, 1603, 1606, 1632, 1605] f a g f a g := xEk_rf
  have hg : ∀ w ∈ kG, w.before _ s = true := fun w h => hts w (List.mem_cons_of_mem _ h)
  have hown : s.vm.findClass RX4 = some m.cls := hown
  have hl : lv_has ls 3 [(0, .ref (r 50)), (1, .int x)] := hl
  have hk0 := hp0
  have hN4 := hp0.2.1
  obtain ⟨cz4, ecz4⟩ : ∃ z : Int32, z = f 1604 := ⟨_, rfl⟩
  have hg0 : cz4.toInt = (i : Int) := by rw [ecz4]; exact hp1
  have b1 : kb 0 cz4 400 := kb_pos hp2 hN4 hg0
  refine lv_iload_n hx hb dX4_takeLawWord_0 rfl (lv_at hl 1 rfl) ?_
  refine lv_sipush (v := 2008) hx hb dX4_takeLawWord_1 (by decide) ?_
  refine lv_isub hx hb dX4_takeLawWord_4 ?_
  refine lv_topi (fun t2 et2 => ?_)
  have b3 : kb (-2008) t2 1992 := kb_eq et2 (kb_sub bx kc_2008 (by decide) (by decide))
  have qt2 : t2.toInt = x.toInt - 2008 := by rw [et2]; exact kt_subc bx kc_2008 (by decide) (by decide)
  refine lv_istore_n (lv' := [(2, .int t2), (0, .ref (r 50)), (1, .int x)]) hx hb dX4_takeLawWord_5 rfl hl (by decide) rfl (fun ls hl => ?_)
  refine lv_iload_n hx hb dX4_takeLawWord_6 rfl (lv_at hl 0 rfl) ?_
  refine lv_if_lt (tgt := 16) hx hb dX4_takeLawWord_7 (by decide) (fun c4 => ?_) (fun c4 => ?_)
  · have h5 := (kc_lt c4)
    have b6 : kb (-2008) t2 (-1) := kr_lt1 h5 b3 kc_0 (by decide)
    refine lv_iconst (v := (-1)) hx hb dX4_takeLawWord_16 (by decide) ?_
    exact kI_ret (v := (-1)) hx hb hr hlocks rfl hK hS dX4_takeLawWord_17 (f, a, g) hP hD ⟨(kb_w kc_m1 (by decide) (by decide)), hI, hG, hE, hk0, (Or.inr ⟨rfl, (fun q => by have w1 := qt2; have w2 := q.1; have w3 := q.2; have w4 := (b6).1; have w5 := (b6).2; omega), (by show (f 1604).toInt = ((i : Nat) : Int); rw [ecz4.symm]; exact hg0)⟩)⟩
  · have h7 := (kc_nlt c4)
    have b8 : kb 0 t2 1992 := kr_le2 h7 kc_0 b3
    refine lv_iload_n hx hb dX4_takeLawWord_10 rfl (lv_at hl 0 rfl) ?_
    refine lv_bipush (v := 10) hx hb dX4_takeLawWord_11 (by decide) ?_
    refine lv_icmp_lt (tgt := 18) hx hb dX4_takeLawWord_13 (by decide) (fun c9 => ?_) (fun c9 => ?_)
    · have h10 := (kc_lt c9)
      have b11 : kb 0 t2 9 := kr_lt1 h10 b8 kc_10 (by decide)
      refine lv_aload_n hx hb dX4_takeLawWord_18 rfl (lv_at hl 1 rfl) ?_
      refine lv_dup hx hb dX4_takeLawWord_19 rfl ?_
      have b12 : kb 2008 x 2017 := ⟨by have w1 := qt2; have w2 := (b11).1; omega, by have w1 := qt2; have w2 := (b11).2; omega⟩
      have hlt13 : i < N := xQ_lt hk0 (fun q => by have w1 := (b12).2; have w2 := congrArg Int32.toInt ((hp3).trans q); have w3 := i4000; omega)
      have b14 : kb 0 cz4 399 := kb_pos1 hlt13 hN4 hg0
      refine va_get (D := D) (ci := 4) (v := .int (f 1604)) (C := RX4) (T := TX4) (N := 7) hx hb hg inC4 hown hK hP 50 rfl rfl 4 (by decide) (hg _ wt2_69) (fun _ h9 => h9) rfl dX4_takeLawWord_20 ?_
      refine k_top (z := cz4) ecz4.symm ?_
      refine lv_iconst (v := 1) hx hb dX4_takeLawWord_23 (by decide) ?_
      refine lv_iadd hx hb dX4_takeLawWord_24 ?_
      refine lv_topi (fun t15 et15 => ?_)
      have b16 : kb 1 t15 400 := kb_eq et15 (kb_add b14 kc_1 (by decide) (by decide))
      have qt15 : t15.toInt = cz4.toInt + 1 := by rw [et15]; exact kt_addc b14 kc_1 (by decide) (by decide)
      have hg17 : t15.toInt = ((i + 1 : Nat) : Int) := by rw [qt15, hg0]; omega
      refine va_put (D := D) (ci := 4) (v := .int t15) (ty := .int) (C := RX4) (T := TX4) (N := 7) hx hb hg inC4 tyX4 tyX4_ok nmX4 hown hK hP hD hS 50 rfl rfl 4 (by decide) (hg _ wt2_69) (fun _ h9 => h9) rfl (by decide +kernel) rfl rfl (Nat.le_of_ble_eq_true rfl) dX4_takeLawWord_25 (fun H locs hP hD hS => ?_)
      have hP : va_P D vwCl (xX K r (upd f 1604 t15) a g tx) H := hP
      have hD : va_D A (xX K r (upd f 1604 t15) a g tx) := hD
      refine k_gen (P := fun z => va_P D vwCl (xX K r z a g tx) H ∧ va_D A (xX K r z a g tx) ∧ (xI z a) ∧ (gOK K g.2 tt) ∧ (xEk [12, 13, 14, 32, 38, 44, 49, 50, 832, 838, 844, 849, 850, 1603, 1606, 1632, 1605] f a g z a g) ∧ (xQ z a N ob T pl)) (upd f 1604 t15) ⟨hP, hD, (xI_f hI (fI_st hI.1 1604 (kb_any _) (by decide) (by decide))), hG, (xEk_f hE (by decide)), (xQ_f hk0 (by decide) (by decide))⟩ (fun f_18 ef_18 hq => ?_)
      obtain ⟨hP, hD, hI, hG, hE, hk0⟩ := hq
      refine lv_iload_n hx hb dX4_takeLawWord_28 rfl (lv_at hl 0 rfl) ?_
      exact kI_ret (v := t2) hx hb hr hlocks rfl hK hS dX4_takeLawWord_29 (f_18, a, g) hP hD ⟨(kb_w b11 (by decide) (by decide)), hI, hG, hE, hk0, (Or.inl ⟨i_ne2 b11 (by decide +kernel), b12, (by show (f_18 1604).toInt = ((i + 1 : Nat) : Int); rw [(show f_18 1604 = t15 from by rw [← ef_18]; rfl)]; exact hg17), hlt13⟩)⟩
    · have h19 := (kc_nlt c9)
      have b20 : kb 10 t2 1992 := kr_le2 h19 kc_10 b8
      refine lv_iconst (v := (-1)) hx hb dX4_takeLawWord_16 (by decide) ?_
      exact kI_ret (v := (-1)) hx hb hr hlocks rfl hK hS dX4_takeLawWord_17 (f, a, g) hP hD ⟨(kb_w kc_m1 (by decide) (by decide)), hI, hG, hE, hk0, (Or.inr ⟨rfl, (fun q => by have w1 := qt2; have w2 := q.1; have w3 := q.2; have w4 := (b20).1; have w5 := (b20).2; omega), (by show (f 1604).toInt = ((i : Nat) : Int); rw [ecz4.symm]; exact hg0)⟩)⟩
set_option maxHeartbeats 4000000 in
set_option maxRecDepth 100000 in
theorem y_takeOrderWord  (l : Launch) {D : va_G} {K : Nat → ClassId} (r : Nat → Nat) (f : Nat → Int32) (a : Nat → Nat → Int32) (g : xG) (tx tt : va_W) (hT : ∀ c ∈ tt, c ∈ tx) (hI : xI f a) (hG : gOK K g.2 tt) (x : Int32) (bx : kb 0 x 4000) (N i : Nat) (ob : Bool) (T pl : Nat → Int32) (hp0 : xQ f a N ob T pl) (hp1 : (f 1604).toInt = (i : Int)) (hp2 : i ≤ N) (hp3 : x = T i) (hp4 : ¬ kb 0 x 1000) : kIG l yX4_takeOrderWord (Cond.code yX4_takeOrderWord cX4_takeOrderWord 5 (some .int) :: kG) (rmD 2 0 0) D K [.ref (r 50), .int x] (xX K r f a g tx) (fun v (u : xS) => kb (-2147483648) v 2147483647 ∧ xI u.1 u.2.1 ∧ gOK K u.2.2.2 tt ∧ xEk [12, 13, 14, 32, 38, 44, 49, 50, 832, 838, 844, 849, 850, 1603, 1606, 1632, 1605] f a g u.1 u.2.1 u.2.2 ∧ xQ u.1 u.2.1 N ob T pl ∧ ((¬ v = -1 ∧ pLf true (T i) = true ∧ pNm true (T i) = false ∧ (u.1 1604).toInt = ((i + 1 : Nat) : Int) ∧ i < N) ∨ (¬ v = -1 ∧ pLf true (T i) = true ∧ pNm true (T i) = true ∧ pInr (T (i + 1)) 0 (if T i = 2014 then 9 else 5) = true ∧ (u.1 1604).toInt = ((i + 1 + 1 : Nat) : Int) ∧ i + 1 < N) ∨ (v = -1 ∧ pLf true (T i) = true ∧ pNm true (T i) = true ∧ pInr (T (i + 1)) 0 (if T i = 2014 then 9 else 5) = false ∧ (u.1 1604).toInt = ((i + 1 : Nat) : Int) ∧ i < N) ∨ (v = -1 ∧ pLf true (T i) = false ∧ (u.1 1604).toInt = (i : Int)))) (fun u => xX K r u.1 u.2.1 u.2.2 tx) 0 0 := by
  refine kIE.of (cc := cX4_takeOrderWord) (maxL := 5) (ret := (some .int)) (by decide) rfl (Nat.le_of_ble_eq_true rfl) ?_
  intro p e s m below meth c A hx hb hr hml hown hts hlocks hnm hK hP hD hS hA hV ls hl
  have hE : xEk [12, 13, 14, 32, 38, 44, 49, 50, 832, 838, 844, 849, 850, 1603, 1606, 1632, 1605] f a g f a g := xEk_rf
  have hg : ∀ w ∈ kG, w.before _ s = true := fun w h => hts w (List.mem_cons_of_mem _ h)
  have hown : s.vm.findClass RX4 = some m.cls := hown
  have hl : lv_has ls 5 [(0, .ref (r 50)), (1, .int x)] := hl
  have hk0 := hp0
  have hN4 := hp0.2.1
  obtain ⟨cz4, ecz4⟩ : ∃ z : Int32, z = f 1604 := ⟨_, rfl⟩
  have hg0 : cz4.toInt = (i : Int) := by rw [ecz4]; exact hp1
  have b1 : kb 0 cz4 400 := kb_pos hp2 hN4 hg0
  refine lv_iload_n hx hb dX4_takeOrderWord_0 rfl (lv_at hl 1 rfl) ?_
  refine lv_sipush (v := 2016) hx hb dX4_takeOrderWord_1 (by decide) ?_
  refine lv_icmp_ne (tgt := 11) hx hb dX4_takeOrderWord_4 (by decide) (fun c2 => ?_) (fun c2 => ?_)
  · refine lv_iload_n hx hb dX4_takeOrderWord_11 rfl (lv_at hl 1 rfl) ?_
    refine lv_sipush (v := 2024) hx hb dX4_takeOrderWord_12 (by decide) ?_
    refine lv_icmp_ne (tgt := 22) hx hb dX4_takeOrderWord_15 (by decide) (fun c3 => ?_) (fun c3 => ?_)
    · refine lv_iload_n hx hb dX4_takeOrderWord_22 rfl (lv_at hl 1 rfl) ?_
      refine lv_sipush (v := 2025) hx hb dX4_takeOrderWord_23 (by decide) ?_
      refine lv_icmp_ne (tgt := 33) hx hb dX4_takeOrderWord_26 (by decide) (fun c4 => ?_) (fun c4 => ?_)
      · refine lv_iload_n hx hb dX4_takeOrderWord_33 rfl (lv_at hl 1 rfl) ?_
        refine lv_sipush (v := 2026) hx hb dX4_takeOrderWord_34 (by decide) ?_
        refine lv_icmp_ne (tgt := 44) hx hb dX4_takeOrderWord_37 (by decide) (fun c5 => ?_) (fun c5 => ?_)
        · refine lv_iconst (v := (-1)) hx hb dX4_takeOrderWord_44 (by decide) ?_
          refine lv_istore_n (lv' := [(2, .int (-1)), (0, .ref (r 50)), (1, .int x)]) hx hb dX4_takeOrderWord_45 rfl hl (by decide) rfl (fun ls hl => ?_)
          refine lv_iload_n hx hb dX4_takeOrderWord_46 rfl (lv_at hl 0 rfl) ?_
          refine lv_iconst (v := (-1)) hx hb dX4_takeOrderWord_47 (by decide) ?_
          refine lv_icmp_eq (tgt := 63) hx hb dX4_takeOrderWord_48 (by decide) (fun c6 => ?_) (fun c6 => ?_)
          · refine lv_iload_n hx hb dX4_takeOrderWord_63 rfl (lv_at hl 2 rfl) ?_
            refine lv_sipush (v := 2014) hx hb dX4_takeOrderWord_64 (by decide) ?_
            refine lv_icmp_ne (tgt := 74) hx hb dX4_takeOrderWord_67 (by decide) (fun c7 => ?_) (fun c7 => ?_)
            · refine lv_iload_n hx hb dX4_takeOrderWord_74 rfl (lv_at hl 2 rfl) ?_
              refine lv_sipush (v := 2010) hx hb dX4_takeOrderWord_75 (by decide) ?_
              refine lv_icmp_ne (tgt := 86) hx hb dX4_takeOrderWord_78 (by decide) (fun c8 => ?_) (fun c8 => ?_)
              · refine lv_iload_n hx hb dX4_takeOrderWord_86 rfl (lv_at hl 2 rfl) ?_
                refine lv_sipush (v := 2027) hx hb dX4_takeOrderWord_87 (by decide) ?_
                refine lv_icmp_ne (tgt := 98) hx hb dX4_takeOrderWord_90 (by decide) (fun c9 => ?_) (fun c9 => ?_)
                · refine lv_iconst (v := (-1)) hx hb dX4_takeOrderWord_98 (by decide) ?_
                  refine lv_istore_n (lv' := [(3, .int (-1)), (2, .int (-1)), (0, .ref (r 50)), (1, .int x)]) hx hb dX4_takeOrderWord_99 rfl hl (by decide) rfl (fun ls hl => ?_)
                  refine lv_iload_n hx hb dX4_takeOrderWord_100 rfl (lv_at hl 0 rfl) ?_
                  refine lv_iconst (v := (-1)) hx hb dX4_takeOrderWord_101 (by decide) ?_
                  refine lv_icmp_ne (tgt := 107) hx hb dX4_takeOrderWord_102 (by decide) (fun c10 => ?_) (fun c10 => ?_)
                  · exact kb_nsame c10 kc_m1 kc_m1
                  · refine lv_iconst (v := (-1)) hx hb dX4_takeOrderWord_105 (by decide) ?_
                    exact kI_ret (v := (-1)) hx hb hr hlocks rfl hK hS dX4_takeOrderWord_106 (f, a, g) hP hD ⟨(kb_w kc_m1 (by decide) (by decide)), hI, hG, hE, hk0, (Or.inr (Or.inr (Or.inr ⟨rfl, (lfx_fo (fun q => hp4 (by rw [hp3]; exact q)) (fun q => c7 (hp3.trans q)) (fun q => c8 (hp3.trans q)) (fun q => c9 (hp3.trans q)) (fun q => c2 (hp3.trans q)) (fun q => c3 (hp3.trans q)) (fun q => c4 (hp3.trans q)) (fun q => c5 (hp3.trans q))), (by show (f 1604).toInt = ((i : Nat) : Int); rw [ecz4.symm]; exact hg0)⟩)))⟩
                · have b11 : kb 2027 x 2027 := kb_eq c9 kc_2027
                  refine lv_bipush (v := 20) hx hb dX4_takeOrderWord_93 (by decide) ?_
                  refine lv_goto (tgt := 99) hx hb dX4_takeOrderWord_95 (by decide) ?_
                  refine lv_istore_n (lv' := [(3, .int 20), (2, .int (-1)), (0, .ref (r 50)), (1, .int x)]) hx hb dX4_takeOrderWord_99 rfl hl (by decide) rfl (fun ls hl => ?_)
                  refine lv_iload_n hx hb dX4_takeOrderWord_100 rfl (lv_at hl 0 rfl) ?_
                  refine lv_iconst (v := (-1)) hx hb dX4_takeOrderWord_101 (by decide) ?_
                  refine lv_icmp_ne (tgt := 107) hx hb dX4_takeOrderWord_102 (by decide) (fun c12 => ?_) (fun c12 => ?_)
                  · refine lv_aload_n hx hb dX4_takeOrderWord_107 rfl (lv_at hl 2 rfl) ?_
                    refine lv_dup hx hb dX4_takeOrderWord_108 rfl ?_
                    have hlt13 : i < N := xQ_lt hk0 (ne_4000 (hp3.symm.trans c9) (by decide +kernel))
                    have b14 : kb 0 cz4 399 := kb_pos1 hlt13 hN4 hg0
                    refine va_get (D := D) (ci := 4) (v := .int (f 1604)) (C := RX4) (T := TX4) (N := 7) hx hb hg inC4 hown hK hP 50 rfl rfl 4 (by decide) (hg _ wt2_69) (fun _ h9 => h9) rfl dX4_takeOrderWord_109 ?_
                    refine k_top (z := cz4) ecz4.symm ?_
                    refine lv_iconst (v := 1) hx hb dX4_takeOrderWord_112 (by decide) ?_
                    refine lv_iadd hx hb dX4_takeOrderWord_113 ?_
                    refine lv_topi (fun t15 et15 => ?_)
                    have b16 : kb 1 t15 400 := kb_eq et15 (kb_add b14 kc_1 (by decide) (by decide))
                    have qt15 : t15.toInt = cz4.toInt + 1 := by rw [et15]; exact kt_addc b14 kc_1 (by decide) (by decide)
                    have hg17 : t15.toInt = ((i + 1 : Nat) : Int) := by rw [qt15, hg0]; omega
                    refine va_put (D := D) (ci := 4) (v := .int t15) (ty := .int) (C := RX4) (T := TX4) (N := 7) hx hb hg inC4 tyX4 tyX4_ok nmX4 hown hK hP hD hS 50 rfl rfl 4 (by decide) (hg _ wt2_69) (fun _ h9 => h9) rfl (by decide +kernel) rfl rfl (Nat.le_of_ble_eq_true rfl) dX4_takeOrderWord_114 (fun H locs hP hD hS => ?_)
                    have hP : va_P D vwCl (xX K r (upd f 1604 t15) a g tx) H := hP
                    have hD : va_D A (xX K r (upd f 1604 t15) a g tx) := hD
                    refine k_gen (P := fun z => va_P D vwCl (xX K r z a g tx) H ∧ va_D A (xX K r z a g tx) ∧ (xI z a) ∧ (gOK K g.2 tt) ∧ (xEk [12, 13, 14, 32, 38, 44, 49, 50, 832, 838, 844, 849, 850, 1603, 1606, 1632, 1605] f a g z a g) ∧ (xQ z a N ob T pl)) (upd f 1604 t15) ⟨hP, hD, (xI_f hI (fI_st hI.1 1604 (kb_any _) (by decide) (by decide))), hG, (xEk_f hE (by decide)), (xQ_f hk0 (by decide) (by decide))⟩ (fun f_18 ef_18 hq => ?_)
                    obtain ⟨hP, hD, hI, hG, hE, hk0⟩ := hq
                    refine lv_aload_n hx hb dX4_takeOrderWord_117 rfl (lv_at hl 2 rfl) ?_
                    refine kIG.callW (As := []) (rest := []) ⟨hx, hb, hml, hown, hg⟩ (y_inHand l r f_18 a g tx tt hT hI hG   N (i + 1) ob T pl hk0 (by rw [(show f_18 1604 = t15 from by rw [← ef_18]; rfl)]; exact hg17) hlt13) (cwV 0 hg (kgV wt3_238 wt4_0 wp1_12 wt1_7 wt4_1) rfl rfl rfl (by decide +kernel) ⟨by decide, by decide⟩) hV hK hP hD hS hA (50) 4 rfl rfl rfl hl.1 rfl (Nat.le_of_ble_eq_true rfl) dX4_takeOrderWord_118 ⟨Nat.le_refl _, Nat.le_refl _⟩ (fun v20 u21 H locs hw19 hP hD hS => ?_)
                    have hP : va_P D vwCl (xX K r f_18 a g tx) H := hP
                    have hD : va_D A (xX K r f_18 a g tx) := hD
                    have b22 : kb 0 v20 4000 := kb_eq hw19.2 (hk0.2.2.2.2.2.2 (i + 1))
                    refine lv_istore (lv' := [(4, .int v20), (3, .int 20), (2, .int (-1)), (0, .ref (r 50)), (1, .int x)]) hx hb dX4_takeOrderWord_121 hl (by decide) rfl (fun ls hl => ?_)
                    refine lv_iload hx hb dX4_takeOrderWord_123 (lv_at hl 0 rfl) ?_
                    refine lv_if_lt (tgt := 145) hx hb dX4_takeOrderWord_125 (by decide) (fun c23 => ?_) (fun c23 => ?_)
                    · have h24 := (kc_lt c23)
                      exact kb_no (kr_lt1 h24 b22 kc_0 (H := (-1)) (by decide)) (by decide)
                    · have h25 := (kc_nlt c23)
                      refine lv_iload hx hb dX4_takeOrderWord_128 (lv_at hl 0 rfl) ?_
                      refine lv_iload_n hx hb dX4_takeOrderWord_130 rfl (lv_at hl 1 rfl) ?_
                      refine lv_iconst (v := 4) hx hb dX4_takeOrderWord_131 (by decide) ?_
                      refine lv_icmp_ne (tgt := 140) hx hb dX4_takeOrderWord_132 (by decide) (fun c26 => ?_) (fun c26 => ?_)
                      · refine lv_bipush (v := 6) hx hb dX4_takeOrderWord_140 (by decide) ?_
                        refine lv_icmp_lt (tgt := 147) hx hb dX4_takeOrderWord_142 (by decide) (fun c27 => ?_) (fun c27 => ?_)
                        · have h28 := (kc_lt c27)
                          have b29 : kb 0 v20 5 := kr_lt1 h28 b22 kc_6 (by decide)
                          refine lv_aload_n hx hb dX4_takeOrderWord_147 rfl (lv_at hl 3 rfl) ?_
                          refine lv_dup hx hb dX4_takeOrderWord_148 rfl ?_
                          have hlt30 : i + 1 < N := xQ_lt hk0 (fun q => by have w1 := (b29).2; have w2 := congrArg Int32.toInt ((hw19.2).trans q); have w3 := i4000; omega)
                          have b31 : kb 0 t15 399 := kb_pos1 hlt30 hN4 hg17
                          refine va_get (D := D) (ci := 4) (v := .int (f_18 1604)) (C := RX4) (T := TX4) (N := 7) hx hb hg inC4 hown hK hP 50 rfl rfl 4 (by decide) (hg _ wt2_69) (fun _ h9 => h9) rfl dX4_takeOrderWord_149 ?_
                          refine k_top (z := t15) (show f_18 1604 = t15 from by rw [← ef_18]; rfl) ?_
                          refine lv_iconst (v := 1) hx hb dX4_takeOrderWord_152 (by decide) ?_
                          refine lv_iadd hx hb dX4_takeOrderWord_153 ?_
                          refine lv_topi (fun t32 et32 => ?_)
                          have b33 : kb 1 t32 400 := kb_eq et32 (kb_add b31 kc_1 (by decide) (by decide))
                          have qt32 : t32.toInt = t15.toInt + 1 := by rw [et32]; exact kt_addc b31 kc_1 (by decide) (by decide)
                          have hg34 : t32.toInt = ((i + 1 + 1 : Nat) : Int) := by rw [qt32, hg17]; omega
                          refine va_put (D := D) (ci := 4) (v := .int t32) (ty := .int) (C := RX4) (T := TX4) (N := 7) hx hb hg inC4 tyX4 tyX4_ok nmX4 hown hK hP hD hS 50 rfl rfl 4 (by decide) (hg _ wt2_69) (fun _ h9 => h9) rfl (by decide +kernel) rfl rfl (Nat.le_of_ble_eq_true rfl) dX4_takeOrderWord_154 (fun H locs hP hD hS => ?_)
                          have hP : va_P D vwCl (xX K r (upd f_18 1604 t32) a g tx) H := hP
                          have hD : va_D A (xX K r (upd f_18 1604 t32) a g tx) := hD
                          refine k_gen (P := fun z => va_P D vwCl (xX K r z a g tx) H ∧ va_D A (xX K r z a g tx) ∧ (xI z a) ∧ (gOK K g.2 tt) ∧ (xEk [12, 13, 14, 32, 38, 44, 49, 50, 832, 838, 844, 849, 850, 1603, 1606, 1632, 1605] f a g z a g) ∧ (xQ z a N ob T pl)) (upd f_18 1604 t32) ⟨hP, hD, (xI_f hI (fI_st hI.1 1604 (kb_any _) (by decide) (by decide))), hG, (xEk_f hE (by decide)), (xQ_f hk0 (by decide) (by decide))⟩ (fun f_35 ef_35 hq => ?_)
                          obtain ⟨hP, hD, hI, hG, hE, hk0⟩ := hq
                          refine lv_iload_n hx hb dX4_takeOrderWord_157 rfl (lv_at hl 1 rfl) ?_
                          refine lv_iload hx hb dX4_takeOrderWord_158 (lv_at hl 0 rfl) ?_
                          refine lv_iadd hx hb dX4_takeOrderWord_160 ?_
                          refine lv_topi (fun t36 et36 => ?_)
                          have b37 : kb 20 t36 25 := kb_eq et36 (kb_add kc_20 b29 (by decide) (by decide))
                          have qt36 : t36.toInt = 20 + v20.toInt := by rw [et36]; exact kt_cadd kc_20 b29 (by decide) (by decide)
                          exact kI_ret (v := t36) hx hb hr hlocks rfl hK hS dX4_takeOrderWord_161 (f_35, a, g) hP hD ⟨(kb_w b37 (by decide) (by decide)), hI, hG, hE, hk0, (Or.inr (Or.inl ⟨i_ne2 b37 (by decide +kernel), (by rw [(hp3.symm.trans c9)]; decide +kernel), (by rw [(hp3.symm.trans c9)]; decide +kernel), (by rw [(hp3.symm.trans c9), if_neg (by decide +kernel), ← hw19.2]; exact pIn_t ⟨(b29).1, by have w1 := (b29).2; omega⟩), (by show (f_35 1604).toInt = ((i + 1 + 1 : Nat) : Int); rw [(show f_35 1604 = t32 from by rw [← ef_35]; rfl)]; exact hg34), hlt30⟩))⟩
                        · have h38 := (kc_nlt c27)
                          have b39 : kb 6 v20 4000 := kr_le2 h38 kc_6 b22
                          refine lv_iconst (v := (-1)) hx hb dX4_takeOrderWord_145 (by decide) ?_
                          exact kI_ret (v := (-1)) hx hb hr hlocks rfl hK hS dX4_takeOrderWord_146 (f_18, a, g) hP hD ⟨(kb_w kc_m1 (by decide) (by decide)), hI, hG, hE, hk0, (Or.inr (Or.inr (Or.inl ⟨rfl, (by rw [(hp3.symm.trans c9)]; decide +kernel), (by rw [(hp3.symm.trans c9)]; decide +kernel), (by rw [(hp3.symm.trans c9), if_neg (by decide +kernel), ← hw19.2]; exact pIn_f (fun q => by have w1 := (b39).1; have w2 := q.2; omega)), (by show (f_18 1604).toInt = ((i + 1 : Nat) : Int); rw [(show f_18 1604 = t15 from by rw [← ef_18]; rfl)]; exact hg17), hlt13⟩)))⟩
                      · exact kb_dj c26 kc_20 kc_4 (by decide)
                  · exact kb_dj c12 kc_20 kc_m1 (by decide)
              · have b40 : kb 2010 x 2010 := kb_eq c8 kc_2010
                refine lv_bipush (v := 14) hx hb dX4_takeOrderWord_81 (by decide) ?_
                refine lv_goto (tgt := 99) hx hb dX4_takeOrderWord_83 (by decide) ?_
                refine lv_istore_n (lv' := [(3, .int 14), (2, .int (-1)), (0, .ref (r 50)), (1, .int x)]) hx hb dX4_takeOrderWord_99 rfl hl (by decide) rfl (fun ls hl => ?_)
                refine lv_iload_n hx hb dX4_takeOrderWord_100 rfl (lv_at hl 0 rfl) ?_
                refine lv_iconst (v := (-1)) hx hb dX4_takeOrderWord_101 (by decide) ?_
                refine lv_icmp_ne (tgt := 107) hx hb dX4_takeOrderWord_102 (by decide) (fun c41 => ?_) (fun c41 => ?_)
                · refine lv_aload_n hx hb dX4_takeOrderWord_107 rfl (lv_at hl 2 rfl) ?_
                  refine lv_dup hx hb dX4_takeOrderWord_108 rfl ?_
                  have hlt42 : i < N := xQ_lt hk0 (ne_4000 (hp3.symm.trans c8) (by decide +kernel))
                  have b43 : kb 0 cz4 399 := kb_pos1 hlt42 hN4 hg0
                  refine va_get (D := D) (ci := 4) (v := .int (f 1604)) (C := RX4) (T := TX4) (N := 7) hx hb hg inC4 hown hK hP 50 rfl rfl 4 (by decide) (hg _ wt2_69) (fun _ h9 => h9) rfl dX4_takeOrderWord_109 ?_
                  refine k_top (z := cz4) ecz4.symm ?_
                  refine lv_iconst (v := 1) hx hb dX4_takeOrderWord_112 (by decide) ?_
                  refine lv_iadd hx hb dX4_takeOrderWord_113 ?_
                  refine lv_topi (fun t44 et44 => ?_)
                  have b45 : kb 1 t44 400 := kb_eq et44 (kb_add b43 kc_1 (by decide) (by decide))
                  have qt44 : t44.toInt = cz4.toInt + 1 := by rw [et44]; exact kt_addc b43 kc_1 (by decide) (by decide)
                  have hg46 : t44.toInt = ((i + 1 : Nat) : Int) := by rw [qt44, hg0]; omega
                  refine va_put (D := D) (ci := 4) (v := .int t44) (ty := .int) (C := RX4) (T := TX4) (N := 7) hx hb hg inC4 tyX4 tyX4_ok nmX4 hown hK hP hD hS 50 rfl rfl 4 (by decide) (hg _ wt2_69) (fun _ h9 => h9) rfl (by decide +kernel) rfl rfl (Nat.le_of_ble_eq_true rfl) dX4_takeOrderWord_114 (fun H locs hP hD hS => ?_)
                  have hP : va_P D vwCl (xX K r (upd f 1604 t44) a g tx) H := hP
                  have hD : va_D A (xX K r (upd f 1604 t44) a g tx) := hD
                  refine k_gen (P := fun z => va_P D vwCl (xX K r z a g tx) H ∧ va_D A (xX K r z a g tx) ∧ (xI z a) ∧ (gOK K g.2 tt) ∧ (xEk [12, 13, 14, 32, 38, 44, 49, 50, 832, 838, 844, 849, 850, 1603, 1606, 1632, 1605] f a g z a g) ∧ (xQ z a N ob T pl)) (upd f 1604 t44) ⟨hP, hD, (xI_f hI (fI_st hI.1 1604 (kb_any _) (by decide) (by decide))), hG, (xEk_f hE (by decide)), (xQ_f hk0 (by decide) (by decide))⟩ (fun f_47 ef_47 hq => ?_)
                  obtain ⟨hP, hD, hI, hG, hE, hk0⟩ := hq
                  refine lv_aload_n hx hb dX4_takeOrderWord_117 rfl (lv_at hl 2 rfl) ?_
                  refine kIG.callW (As := []) (rest := []) ⟨hx, hb, hml, hown, hg⟩ (y_inHand l r f_47 a g tx tt hT hI hG   N (i + 1) ob T pl hk0 (by rw [(show f_47 1604 = t44 from by rw [← ef_47]; rfl)]; exact hg46) hlt42) (cwV 0 hg (kgV wt3_238 wt4_0 wp1_12 wt1_7 wt4_1) rfl rfl rfl (by decide +kernel) ⟨by decide, by decide⟩) hV hK hP hD hS hA (50) 4 rfl rfl rfl hl.1 rfl (Nat.le_of_ble_eq_true rfl) dX4_takeOrderWord_118 ⟨Nat.le_refl _, Nat.le_refl _⟩ (fun v49 u50 H locs hw48 hP hD hS => ?_)
                  have hP : va_P D vwCl (xX K r f_47 a g tx) H := hP
                  have hD : va_D A (xX K r f_47 a g tx) := hD
                  have b51 : kb 0 v49 4000 := kb_eq hw48.2 (hk0.2.2.2.2.2.2 (i + 1))
                  refine lv_istore (lv' := [(4, .int v49), (3, .int 14), (2, .int (-1)), (0, .ref (r 50)), (1, .int x)]) hx hb dX4_takeOrderWord_121 hl (by decide) rfl (fun ls hl => ?_)
                  refine lv_iload hx hb dX4_takeOrderWord_123 (lv_at hl 0 rfl) ?_
                  refine lv_if_lt (tgt := 145) hx hb dX4_takeOrderWord_125 (by decide) (fun c52 => ?_) (fun c52 => ?_)
                  · have h53 := (kc_lt c52)
                    exact kb_no (kr_lt1 h53 b51 kc_0 (H := (-1)) (by decide)) (by decide)
                  · have h54 := (kc_nlt c52)
                    refine lv_iload hx hb dX4_takeOrderWord_128 (lv_at hl 0 rfl) ?_
                    refine lv_iload_n hx hb dX4_takeOrderWord_130 rfl (lv_at hl 1 rfl) ?_
                    refine lv_iconst (v := 4) hx hb dX4_takeOrderWord_131 (by decide) ?_
                    refine lv_icmp_ne (tgt := 140) hx hb dX4_takeOrderWord_132 (by decide) (fun c55 => ?_) (fun c55 => ?_)
                    · refine lv_bipush (v := 6) hx hb dX4_takeOrderWord_140 (by decide) ?_
                      refine lv_icmp_lt (tgt := 147) hx hb dX4_takeOrderWord_142 (by decide) (fun c56 => ?_) (fun c56 => ?_)
                      · have h57 := (kc_lt c56)
                        have b58 : kb 0 v49 5 := kr_lt1 h57 b51 kc_6 (by decide)
                        refine lv_aload_n hx hb dX4_takeOrderWord_147 rfl (lv_at hl 3 rfl) ?_
                        refine lv_dup hx hb dX4_takeOrderWord_148 rfl ?_
                        have hlt59 : i + 1 < N := xQ_lt hk0 (fun q => by have w1 := (b58).2; have w2 := congrArg Int32.toInt ((hw48.2).trans q); have w3 := i4000; omega)
                        have b60 : kb 0 t44 399 := kb_pos1 hlt59 hN4 hg46
                        refine va_get (D := D) (ci := 4) (v := .int (f_47 1604)) (C := RX4) (T := TX4) (N := 7) hx hb hg inC4 hown hK hP 50 rfl rfl 4 (by decide) (hg _ wt2_69) (fun _ h9 => h9) rfl dX4_takeOrderWord_149 ?_
                        refine k_top (z := t44) (show f_47 1604 = t44 from by rw [← ef_47]; rfl) ?_
                        refine lv_iconst (v := 1) hx hb dX4_takeOrderWord_152 (by decide) ?_
                        refine lv_iadd hx hb dX4_takeOrderWord_153 ?_
                        refine lv_topi (fun t61 et61 => ?_)
                        have b62 : kb 1 t61 400 := kb_eq et61 (kb_add b60 kc_1 (by decide) (by decide))
                        have qt61 : t61.toInt = t44.toInt + 1 := by rw [et61]; exact kt_addc b60 kc_1 (by decide) (by decide)
                        have hg63 : t61.toInt = ((i + 1 + 1 : Nat) : Int) := by rw [qt61, hg46]; omega
                        refine va_put (D := D) (ci := 4) (v := .int t61) (ty := .int) (C := RX4) (T := TX4) (N := 7) hx hb hg inC4 tyX4 tyX4_ok nmX4 hown hK hP hD hS 50 rfl rfl 4 (by decide) (hg _ wt2_69) (fun _ h9 => h9) rfl (by decide +kernel) rfl rfl (Nat.le_of_ble_eq_true rfl) dX4_takeOrderWord_154 (fun H locs hP hD hS => ?_)
                        have hP : va_P D vwCl (xX K r (upd f_47 1604 t61) a g tx) H := hP
                        have hD : va_D A (xX K r (upd f_47 1604 t61) a g tx) := hD
                        refine k_gen (P := fun z => va_P D vwCl (xX K r z a g tx) H ∧ va_D A (xX K r z a g tx) ∧ (xI z a) ∧ (gOK K g.2 tt) ∧ (xEk [12, 13, 14, 32, 38, 44, 49, 50, 832, 838, 844, 849, 850, 1603, 1606, 1632, 1605] f a g z a g) ∧ (xQ z a N ob T pl)) (upd f_47 1604 t61) ⟨hP, hD, (xI_f hI (fI_st hI.1 1604 (kb_any _) (by decide) (by decide))), hG, (xEk_f hE (by decide)), (xQ_f hk0 (by decide) (by decide))⟩ (fun f_64 ef_64 hq => ?_)
                        obtain ⟨hP, hD, hI, hG, hE, hk0⟩ := hq
                        refine lv_iload_n hx hb dX4_takeOrderWord_157 rfl (lv_at hl 1 rfl) ?_
                        refine lv_iload hx hb dX4_takeOrderWord_158 (lv_at hl 0 rfl) ?_
                        refine lv_iadd hx hb dX4_takeOrderWord_160 ?_
                        refine lv_topi (fun t65 et65 => ?_)
                        have b66 : kb 14 t65 19 := kb_eq et65 (kb_add kc_14 b58 (by decide) (by decide))
                        have qt65 : t65.toInt = 14 + v49.toInt := by rw [et65]; exact kt_cadd kc_14 b58 (by decide) (by decide)
                        exact kI_ret (v := t65) hx hb hr hlocks rfl hK hS dX4_takeOrderWord_161 (f_64, a, g) hP hD ⟨(kb_w b66 (by decide) (by decide)), hI, hG, hE, hk0, (Or.inr (Or.inl ⟨i_ne2 b66 (by decide +kernel), (by rw [(hp3.symm.trans c8)]; decide +kernel), (by rw [(hp3.symm.trans c8)]; decide +kernel), (by rw [(hp3.symm.trans c8), if_neg (by decide +kernel), ← hw48.2]; exact pIn_t ⟨(b58).1, by have w1 := (b58).2; omega⟩), (by show (f_64 1604).toInt = ((i + 1 + 1 : Nat) : Int); rw [(show f_64 1604 = t61 from by rw [← ef_64]; rfl)]; exact hg63), hlt59⟩))⟩
                      · have h67 := (kc_nlt c56)
                        have b68 : kb 6 v49 4000 := kr_le2 h67 kc_6 b51
                        refine lv_iconst (v := (-1)) hx hb dX4_takeOrderWord_145 (by decide) ?_
                        exact kI_ret (v := (-1)) hx hb hr hlocks rfl hK hS dX4_takeOrderWord_146 (f_47, a, g) hP hD ⟨(kb_w kc_m1 (by decide) (by decide)), hI, hG, hE, hk0, (Or.inr (Or.inr (Or.inl ⟨rfl, (by rw [(hp3.symm.trans c8)]; decide +kernel), (by rw [(hp3.symm.trans c8)]; decide +kernel), (by rw [(hp3.symm.trans c8), if_neg (by decide +kernel), ← hw48.2]; exact pIn_f (fun q => by have w1 := (b68).1; have w2 := q.2; omega)), (by show (f_47 1604).toInt = ((i + 1 : Nat) : Int); rw [(show f_47 1604 = t44 from by rw [← ef_47]; rfl)]; exact hg46), hlt42⟩)))⟩
                    · exact kb_dj c55 kc_14 kc_4 (by decide)
                · exact kb_dj c41 kc_14 kc_m1 (by decide)
            · have b69 : kb 2014 x 2014 := kb_eq c7 kc_2014
              refine lv_iconst (v := 4) hx hb dX4_takeOrderWord_70 (by decide) ?_
              refine lv_goto (tgt := 99) hx hb dX4_takeOrderWord_71 (by decide) ?_
              refine lv_istore_n (lv' := [(3, .int 4), (2, .int (-1)), (0, .ref (r 50)), (1, .int x)]) hx hb dX4_takeOrderWord_99 rfl hl (by decide) rfl (fun ls hl => ?_)
              refine lv_iload_n hx hb dX4_takeOrderWord_100 rfl (lv_at hl 0 rfl) ?_
              refine lv_iconst (v := (-1)) hx hb dX4_takeOrderWord_101 (by decide) ?_
              refine lv_icmp_ne (tgt := 107) hx hb dX4_takeOrderWord_102 (by decide) (fun c70 => ?_) (fun c70 => ?_)
              · refine lv_aload_n hx hb dX4_takeOrderWord_107 rfl (lv_at hl 2 rfl) ?_
                refine lv_dup hx hb dX4_takeOrderWord_108 rfl ?_
                have hlt71 : i < N := xQ_lt hk0 (ne_4000 (hp3.symm.trans c7) (by decide +kernel))
                have b72 : kb 0 cz4 399 := kb_pos1 hlt71 hN4 hg0
                refine va_get (D := D) (ci := 4) (v := .int (f 1604)) (C := RX4) (T := TX4) (N := 7) hx hb hg inC4 hown hK hP 50 rfl rfl 4 (by decide) (hg _ wt2_69) (fun _ h9 => h9) rfl dX4_takeOrderWord_109 ?_
                refine k_top (z := cz4) ecz4.symm ?_
                refine lv_iconst (v := 1) hx hb dX4_takeOrderWord_112 (by decide) ?_
                refine lv_iadd hx hb dX4_takeOrderWord_113 ?_
                refine lv_topi (fun t73 et73 => ?_)
                have b74 : kb 1 t73 400 := kb_eq et73 (kb_add b72 kc_1 (by decide) (by decide))
                have qt73 : t73.toInt = cz4.toInt + 1 := by rw [et73]; exact kt_addc b72 kc_1 (by decide) (by decide)
                have hg75 : t73.toInt = ((i + 1 : Nat) : Int) := by rw [qt73, hg0]; omega
                refine va_put (D := D) (ci := 4) (v := .int t73) (ty := .int) (C := RX4) (T := TX4) (N := 7) hx hb hg inC4 tyX4 tyX4_ok nmX4 hown hK hP hD hS 50 rfl rfl 4 (by decide) (hg _ wt2_69) (fun _ h9 => h9) rfl (by decide +kernel) rfl rfl (Nat.le_of_ble_eq_true rfl) dX4_takeOrderWord_114 (fun H locs hP hD hS => ?_)
                have hP : va_P D vwCl (xX K r (upd f 1604 t73) a g tx) H := hP
                have hD : va_D A (xX K r (upd f 1604 t73) a g tx) := hD
                refine k_gen (P := fun z => va_P D vwCl (xX K r z a g tx) H ∧ va_D A (xX K r z a g tx) ∧ (xI z a) ∧ (gOK K g.2 tt) ∧ (xEk [12, 13, 14, 32, 38, 44, 49, 50, 832, 838, 844, 849, 850, 1603, 1606, 1632, 1605] f a g z a g) ∧ (xQ z a N ob T pl)) (upd f 1604 t73) ⟨hP, hD, (xI_f hI (fI_st hI.1 1604 (kb_any _) (by decide) (by decide))), hG, (xEk_f hE (by decide)), (xQ_f hk0 (by decide) (by decide))⟩ (fun f_76 ef_76 hq => ?_)
                obtain ⟨hP, hD, hI, hG, hE, hk0⟩ := hq
                refine lv_aload_n hx hb dX4_takeOrderWord_117 rfl (lv_at hl 2 rfl) ?_
                refine kIG.callW (As := []) (rest := []) ⟨hx, hb, hml, hown, hg⟩ (y_inHand l r f_76 a g tx tt hT hI hG   N (i + 1) ob T pl hk0 (by rw [(show f_76 1604 = t73 from by rw [← ef_76]; rfl)]; exact hg75) hlt71) (cwV 0 hg (kgV wt3_238 wt4_0 wp1_12 wt1_7 wt4_1) rfl rfl rfl (by decide +kernel) ⟨by decide, by decide⟩) hV hK hP hD hS hA (50) 4 rfl rfl rfl hl.1 rfl (Nat.le_of_ble_eq_true rfl) dX4_takeOrderWord_118 ⟨Nat.le_refl _, Nat.le_refl _⟩ (fun v78 u79 H locs hw77 hP hD hS => ?_)
                have hP : va_P D vwCl (xX K r f_76 a g tx) H := hP
                have hD : va_D A (xX K r f_76 a g tx) := hD
                have b80 : kb 0 v78 4000 := kb_eq hw77.2 (hk0.2.2.2.2.2.2 (i + 1))
                refine lv_istore (lv' := [(4, .int v78), (3, .int 4), (2, .int (-1)), (0, .ref (r 50)), (1, .int x)]) hx hb dX4_takeOrderWord_121 hl (by decide) rfl (fun ls hl => ?_)
                refine lv_iload hx hb dX4_takeOrderWord_123 (lv_at hl 0 rfl) ?_
                refine lv_if_lt (tgt := 145) hx hb dX4_takeOrderWord_125 (by decide) (fun c81 => ?_) (fun c81 => ?_)
                · have h82 := (kc_lt c81)
                  exact kb_no (kr_lt1 h82 b80 kc_0 (H := (-1)) (by decide)) (by decide)
                · have h83 := (kc_nlt c81)
                  refine lv_iload hx hb dX4_takeOrderWord_128 (lv_at hl 0 rfl) ?_
                  refine lv_iload_n hx hb dX4_takeOrderWord_130 rfl (lv_at hl 1 rfl) ?_
                  refine lv_iconst (v := 4) hx hb dX4_takeOrderWord_131 (by decide) ?_
                  refine lv_icmp_ne (tgt := 140) hx hb dX4_takeOrderWord_132 (by decide) (fun c84 => ?_) (fun c84 => ?_)
                  · exact kb_nsame c84 kc_4 kc_4
                  · refine lv_bipush (v := 10) hx hb dX4_takeOrderWord_135 (by decide) ?_
                    refine lv_goto (tgt := 142) hx hb dX4_takeOrderWord_137 (by decide) ?_
                    refine lv_icmp_lt (tgt := 147) hx hb dX4_takeOrderWord_142 (by decide) (fun c85 => ?_) (fun c85 => ?_)
                    · have h86 := (kc_lt c85)
                      have b87 : kb 0 v78 9 := kr_lt1 h86 b80 kc_10 (by decide)
                      refine lv_aload_n hx hb dX4_takeOrderWord_147 rfl (lv_at hl 3 rfl) ?_
                      refine lv_dup hx hb dX4_takeOrderWord_148 rfl ?_
                      have hlt88 : i + 1 < N := xQ_lt hk0 (fun q => by have w1 := (b87).2; have w2 := congrArg Int32.toInt ((hw77.2).trans q); have w3 := i4000; omega)
                      have b89 : kb 0 t73 399 := kb_pos1 hlt88 hN4 hg75
                      refine va_get (D := D) (ci := 4) (v := .int (f_76 1604)) (C := RX4) (T := TX4) (N := 7) hx hb hg inC4 hown hK hP 50 rfl rfl 4 (by decide) (hg _ wt2_69) (fun _ h9 => h9) rfl dX4_takeOrderWord_149 ?_
                      refine k_top (z := t73) (show f_76 1604 = t73 from by rw [← ef_76]; rfl) ?_
                      refine lv_iconst (v := 1) hx hb dX4_takeOrderWord_152 (by decide) ?_
                      refine lv_iadd hx hb dX4_takeOrderWord_153 ?_
                      refine lv_topi (fun t90 et90 => ?_)
                      have b91 : kb 1 t90 400 := kb_eq et90 (kb_add b89 kc_1 (by decide) (by decide))
                      have qt90 : t90.toInt = t73.toInt + 1 := by rw [et90]; exact kt_addc b89 kc_1 (by decide) (by decide)
                      have hg92 : t90.toInt = ((i + 1 + 1 : Nat) : Int) := by rw [qt90, hg75]; omega
                      refine va_put (D := D) (ci := 4) (v := .int t90) (ty := .int) (C := RX4) (T := TX4) (N := 7) hx hb hg inC4 tyX4 tyX4_ok nmX4 hown hK hP hD hS 50 rfl rfl 4 (by decide) (hg _ wt2_69) (fun _ h9 => h9) rfl (by decide +kernel) rfl rfl (Nat.le_of_ble_eq_true rfl) dX4_takeOrderWord_154 (fun H locs hP hD hS => ?_)
                      have hP : va_P D vwCl (xX K r (upd f_76 1604 t90) a g tx) H := hP
                      have hD : va_D A (xX K r (upd f_76 1604 t90) a g tx) := hD
                      refine k_gen (P := fun z => va_P D vwCl (xX K r z a g tx) H ∧ va_D A (xX K r z a g tx) ∧ (xI z a) ∧ (gOK K g.2 tt) ∧ (xEk [12, 13, 14, 32, 38, 44, 49, 50, 832, 838, 844, 849, 850, 1603, 1606, 1632, 1605] f a g z a g) ∧ (xQ z a N ob T pl)) (upd f_76 1604 t90) ⟨hP, hD, (xI_f hI (fI_st hI.1 1604 (kb_any _) (by decide) (by decide))), hG, (xEk_f hE (by decide)), (xQ_f hk0 (by decide) (by decide))⟩ (fun f_93 ef_93 hq => ?_)
                      obtain ⟨hP, hD, hI, hG, hE, hk0⟩ := hq
                      refine lv_iload_n hx hb dX4_takeOrderWord_157 rfl (lv_at hl 1 rfl) ?_
                      refine lv_iload hx hb dX4_takeOrderWord_158 (lv_at hl 0 rfl) ?_
                      refine lv_iadd hx hb dX4_takeOrderWord_160 ?_
                      refine lv_topi (fun t94 et94 => ?_)
                      have b95 : kb 4 t94 13 := kb_eq et94 (kb_add kc_4 b87 (by decide) (by decide))
                      have qt94 : t94.toInt = 4 + v78.toInt := by rw [et94]; exact kt_cadd kc_4 b87 (by decide) (by decide)
                      exact kI_ret (v := t94) hx hb hr hlocks rfl hK hS dX4_takeOrderWord_161 (f_93, a, g) hP hD ⟨(kb_w b95 (by decide) (by decide)), hI, hG, hE, hk0, (Or.inr (Or.inl ⟨i_ne2 b95 (by decide +kernel), (by rw [(hp3.symm.trans c7)]; decide +kernel), (by rw [(hp3.symm.trans c7)]; decide +kernel), (by rw [(hp3.symm.trans c7), if_pos rfl, ← hw77.2]; exact pIn_t ⟨(b87).1, by have w1 := (b87).2; omega⟩), (by show (f_93 1604).toInt = ((i + 1 + 1 : Nat) : Int); rw [(show f_93 1604 = t90 from by rw [← ef_93]; rfl)]; exact hg92), hlt88⟩))⟩
                    · have h96 := (kc_nlt c85)
                      have b97 : kb 10 v78 4000 := kr_le2 h96 kc_10 b80
                      refine lv_iconst (v := (-1)) hx hb dX4_takeOrderWord_145 (by decide) ?_
                      exact kI_ret (v := (-1)) hx hb hr hlocks rfl hK hS dX4_takeOrderWord_146 (f_76, a, g) hP hD ⟨(kb_w kc_m1 (by decide) (by decide)), hI, hG, hE, hk0, (Or.inr (Or.inr (Or.inl ⟨rfl, (by rw [(hp3.symm.trans c7)]; decide +kernel), (by rw [(hp3.symm.trans c7)]; decide +kernel), (by rw [(hp3.symm.trans c7), if_pos rfl, ← hw77.2]; exact pIn_f (fun q => by have w1 := (b97).1; have w2 := q.2; omega)), (by show (f_76 1604).toInt = ((i + 1 : Nat) : Int); rw [(show f_76 1604 = t73 from by rw [← ef_76]; rfl)]; exact hg75), hlt71⟩)))⟩
              · exact kb_dj c70 kc_4 kc_m1 (by decide)
          · exact kb_nsame c6 kc_m1 kc_m1
        · have b98 : kb 2026 x 2026 := kb_eq c5 kc_2026
          refine lv_iconst (v := 3) hx hb dX4_takeOrderWord_40 (by decide) ?_
          refine lv_goto (tgt := 45) hx hb dX4_takeOrderWord_41 (by decide) ?_
          refine lv_istore_n (lv' := [(2, .int 3), (0, .ref (r 50)), (1, .int x)]) hx hb dX4_takeOrderWord_45 rfl hl (by decide) rfl (fun ls hl => ?_)
          refine lv_iload_n hx hb dX4_takeOrderWord_46 rfl (lv_at hl 0 rfl) ?_
          refine lv_iconst (v := (-1)) hx hb dX4_takeOrderWord_47 (by decide) ?_
          refine lv_icmp_eq (tgt := 63) hx hb dX4_takeOrderWord_48 (by decide) (fun c99 => ?_) (fun c99 => ?_)
          · exact kb_dj c99 kc_3 kc_m1 (by decide)
          · refine lv_aload_n hx hb dX4_takeOrderWord_51 rfl (lv_at hl 1 rfl) ?_
            refine lv_dup hx hb dX4_takeOrderWord_52 rfl ?_
            have hlt100 : i < N := xQ_lt hk0 (ne_4000 (hp3.symm.trans c5) (by decide +kernel))
            have b101 : kb 0 cz4 399 := kb_pos1 hlt100 hN4 hg0
            refine va_get (D := D) (ci := 4) (v := .int (f 1604)) (C := RX4) (T := TX4) (N := 7) hx hb hg inC4 hown hK hP 50 rfl rfl 4 (by decide) (hg _ wt2_69) (fun _ h9 => h9) rfl dX4_takeOrderWord_53 ?_
            refine k_top (z := cz4) ecz4.symm ?_
            refine lv_iconst (v := 1) hx hb dX4_takeOrderWord_56 (by decide) ?_
            refine lv_iadd hx hb dX4_takeOrderWord_57 ?_
            refine lv_topi (fun t102 et102 => ?_)
            have b103 : kb 1 t102 400 := kb_eq et102 (kb_add b101 kc_1 (by decide) (by decide))
            have qt102 : t102.toInt = cz4.toInt + 1 := by rw [et102]; exact kt_addc b101 kc_1 (by decide) (by decide)
            have hg104 : t102.toInt = ((i + 1 : Nat) : Int) := by rw [qt102, hg0]; omega
            refine va_put (D := D) (ci := 4) (v := .int t102) (ty := .int) (C := RX4) (T := TX4) (N := 7) hx hb hg inC4 tyX4 tyX4_ok nmX4 hown hK hP hD hS 50 rfl rfl 4 (by decide) (hg _ wt2_69) (fun _ h9 => h9) rfl (by decide +kernel) rfl rfl (Nat.le_of_ble_eq_true rfl) dX4_takeOrderWord_58 (fun H locs hP hD hS => ?_)
            have hP : va_P D vwCl (xX K r (upd f 1604 t102) a g tx) H := hP
            have hD : va_D A (xX K r (upd f 1604 t102) a g tx) := hD
            refine k_gen (P := fun z => va_P D vwCl (xX K r z a g tx) H ∧ va_D A (xX K r z a g tx) ∧ (xI z a) ∧ (gOK K g.2 tt) ∧ (xEk [12, 13, 14, 32, 38, 44, 49, 50, 832, 838, 844, 849, 850, 1603, 1606, 1632, 1605] f a g z a g) ∧ (xQ z a N ob T pl)) (upd f 1604 t102) ⟨hP, hD, (xI_f hI (fI_st hI.1 1604 (kb_any _) (by decide) (by decide))), hG, (xEk_f hE (by decide)), (xQ_f hk0 (by decide) (by decide))⟩ (fun f_105 ef_105 hq => ?_)
            obtain ⟨hP, hD, hI, hG, hE, hk0⟩ := hq
            refine lv_iload_n hx hb dX4_takeOrderWord_61 rfl (lv_at hl 0 rfl) ?_
            exact kI_ret (v := 3) hx hb hr hlocks rfl hK hS dX4_takeOrderWord_62 (f_105, a, g) hP hD ⟨(kb_w kc_3 (by decide) (by decide)), hI, hG, hE, hk0, (Or.inl ⟨(by decide +kernel), (by rw [(hp3.symm.trans c5)]; decide +kernel), (by rw [(hp3.symm.trans c5)]; decide +kernel), (by show (f_105 1604).toInt = ((i + 1 : Nat) : Int); rw [(show f_105 1604 = t102 from by rw [← ef_105]; rfl)]; exact hg104), hlt100⟩)⟩
      · have b106 : kb 2025 x 2025 := kb_eq c4 kc_2025
        refine lv_iconst (v := 2) hx hb dX4_takeOrderWord_29 (by decide) ?_
        refine lv_goto (tgt := 45) hx hb dX4_takeOrderWord_30 (by decide) ?_
        refine lv_istore_n (lv' := [(2, .int 2), (0, .ref (r 50)), (1, .int x)]) hx hb dX4_takeOrderWord_45 rfl hl (by decide) rfl (fun ls hl => ?_)
        refine lv_iload_n hx hb dX4_takeOrderWord_46 rfl (lv_at hl 0 rfl) ?_
        refine lv_iconst (v := (-1)) hx hb dX4_takeOrderWord_47 (by decide) ?_
        refine lv_icmp_eq (tgt := 63) hx hb dX4_takeOrderWord_48 (by decide) (fun c107 => ?_) (fun c107 => ?_)
        · exact kb_dj c107 kc_2 kc_m1 (by decide)
        · refine lv_aload_n hx hb dX4_takeOrderWord_51 rfl (lv_at hl 1 rfl) ?_
          refine lv_dup hx hb dX4_takeOrderWord_52 rfl ?_
          have hlt108 : i < N := xQ_lt hk0 (ne_4000 (hp3.symm.trans c4) (by decide +kernel))
          have b109 : kb 0 cz4 399 := kb_pos1 hlt108 hN4 hg0
          refine va_get (D := D) (ci := 4) (v := .int (f 1604)) (C := RX4) (T := TX4) (N := 7) hx hb hg inC4 hown hK hP 50 rfl rfl 4 (by decide) (hg _ wt2_69) (fun _ h9 => h9) rfl dX4_takeOrderWord_53 ?_
          refine k_top (z := cz4) ecz4.symm ?_
          refine lv_iconst (v := 1) hx hb dX4_takeOrderWord_56 (by decide) ?_
          refine lv_iadd hx hb dX4_takeOrderWord_57 ?_
          refine lv_topi (fun t110 et110 => ?_)
          have b111 : kb 1 t110 400 := kb_eq et110 (kb_add b109 kc_1 (by decide) (by decide))
          have qt110 : t110.toInt = cz4.toInt + 1 := by rw [et110]; exact kt_addc b109 kc_1 (by decide) (by decide)
          have hg112 : t110.toInt = ((i + 1 : Nat) : Int) := by rw [qt110, hg0]; omega
          refine va_put (D := D) (ci := 4) (v := .int t110) (ty := .int) (C := RX4) (T := TX4) (N := 7) hx hb hg inC4 tyX4 tyX4_ok nmX4 hown hK hP hD hS 50 rfl rfl 4 (by decide) (hg _ wt2_69) (fun _ h9 => h9) rfl (by decide +kernel) rfl rfl (Nat.le_of_ble_eq_true rfl) dX4_takeOrderWord_58 (fun H locs hP hD hS => ?_)
          have hP : va_P D vwCl (xX K r (upd f 1604 t110) a g tx) H := hP
          have hD : va_D A (xX K r (upd f 1604 t110) a g tx) := hD
          refine k_gen (P := fun z => va_P D vwCl (xX K r z a g tx) H ∧ va_D A (xX K r z a g tx) ∧ (xI z a) ∧ (gOK K g.2 tt) ∧ (xEk [12, 13, 14, 32, 38, 44, 49, 50, 832, 838, 844, 849, 850, 1603, 1606, 1632, 1605] f a g z a g) ∧ (xQ z a N ob T pl)) (upd f 1604 t110) ⟨hP, hD, (xI_f hI (fI_st hI.1 1604 (kb_any _) (by decide) (by decide))), hG, (xEk_f hE (by decide)), (xQ_f hk0 (by decide) (by decide))⟩ (fun f_113 ef_113 hq => ?_)
          obtain ⟨hP, hD, hI, hG, hE, hk0⟩ := hq
          refine lv_iload_n hx hb dX4_takeOrderWord_61 rfl (lv_at hl 0 rfl) ?_
          exact kI_ret (v := 2) hx hb hr hlocks rfl hK hS dX4_takeOrderWord_62 (f_113, a, g) hP hD ⟨(kb_w kc_2 (by decide) (by decide)), hI, hG, hE, hk0, (Or.inl ⟨(by decide +kernel), (by rw [(hp3.symm.trans c4)]; decide +kernel), (by rw [(hp3.symm.trans c4)]; decide +kernel), (by show (f_113 1604).toInt = ((i + 1 : Nat) : Int); rw [(show f_113 1604 = t110 from by rw [← ef_113]; rfl)]; exact hg112), hlt108⟩)⟩
    · have b114 : kb 2024 x 2024 := kb_eq c3 kc_2024
      refine lv_iconst (v := 1) hx hb dX4_takeOrderWord_18 (by decide) ?_
      refine lv_goto (tgt := 45) hx hb dX4_takeOrderWord_19 (by decide) ?_
      refine lv_istore_n (lv' := [(2, .int 1), (0, .ref (r 50)), (1, .int x)]) hx hb dX4_takeOrderWord_45 rfl hl (by decide) rfl (fun ls hl => ?_)
      refine lv_iload_n hx hb dX4_takeOrderWord_46 rfl (lv_at hl 0 rfl) ?_
      refine lv_iconst (v := (-1)) hx hb dX4_takeOrderWord_47 (by decide) ?_
      refine lv_icmp_eq (tgt := 63) hx hb dX4_takeOrderWord_48 (by decide) (fun c115 => ?_) (fun c115 => ?_)
      · exact kb_dj c115 kc_1 kc_m1 (by decide)
      · refine lv_aload_n hx hb dX4_takeOrderWord_51 rfl (lv_at hl 1 rfl) ?_
        refine lv_dup hx hb dX4_takeOrderWord_52 rfl ?_
        have hlt116 : i < N := xQ_lt hk0 (ne_4000 (hp3.symm.trans c3) (by decide +kernel))
        have b117 : kb 0 cz4 399 := kb_pos1 hlt116 hN4 hg0
        refine va_get (D := D) (ci := 4) (v := .int (f 1604)) (C := RX4) (T := TX4) (N := 7) hx hb hg inC4 hown hK hP 50 rfl rfl 4 (by decide) (hg _ wt2_69) (fun _ h9 => h9) rfl dX4_takeOrderWord_53 ?_
        refine k_top (z := cz4) ecz4.symm ?_
        refine lv_iconst (v := 1) hx hb dX4_takeOrderWord_56 (by decide) ?_
        refine lv_iadd hx hb dX4_takeOrderWord_57 ?_
        refine lv_topi (fun t118 et118 => ?_)
        have b119 : kb 1 t118 400 := kb_eq et118 (kb_add b117 kc_1 (by decide) (by decide))
        have qt118 : t118.toInt = cz4.toInt + 1 := by rw [et118]; exact kt_addc b117 kc_1 (by decide) (by decide)
        have hg120 : t118.toInt = ((i + 1 : Nat) : Int) := by rw [qt118, hg0]; omega
        refine va_put (D := D) (ci := 4) (v := .int t118) (ty := .int) (C := RX4) (T := TX4) (N := 7) hx hb hg inC4 tyX4 tyX4_ok nmX4 hown hK hP hD hS 50 rfl rfl 4 (by decide) (hg _ wt2_69) (fun _ h9 => h9) rfl (by decide +kernel) rfl rfl (Nat.le_of_ble_eq_true rfl) dX4_takeOrderWord_58 (fun H locs hP hD hS => ?_)
        have hP : va_P D vwCl (xX K r (upd f 1604 t118) a g tx) H := hP
        have hD : va_D A (xX K r (upd f 1604 t118) a g tx) := hD
        refine k_gen (P := fun z => va_P D vwCl (xX K r z a g tx) H ∧ va_D A (xX K r z a g tx) ∧ (xI z a) ∧ (gOK K g.2 tt) ∧ (xEk [12, 13, 14, 32, 38, 44, 49, 50, 832, 838, 844, 849, 850, 1603, 1606, 1632, 1605] f a g z a g) ∧ (xQ z a N ob T pl)) (upd f 1604 t118) ⟨hP, hD, (xI_f hI (fI_st hI.1 1604 (kb_any _) (by decide) (by decide))), hG, (xEk_f hE (by decide)), (xQ_f hk0 (by decide) (by decide))⟩ (fun f_121 ef_121 hq => ?_)
        obtain ⟨hP, hD, hI, hG, hE, hk0⟩ := hq
        refine lv_iload_n hx hb dX4_takeOrderWord_61 rfl (lv_at hl 0 rfl) ?_
        exact kI_ret (v := 1) hx hb hr hlocks rfl hK hS dX4_takeOrderWord_62 (f_121, a, g) hP hD ⟨(kb_w kc_1 (by decide) (by decide)), hI, hG, hE, hk0, (Or.inl ⟨(by decide +kernel), (by rw [(hp3.symm.trans c3)]; decide +kernel), (by rw [(hp3.symm.trans c3)]; decide +kernel), (by show (f_121 1604).toInt = ((i + 1 : Nat) : Int); rw [(show f_121 1604 = t118 from by rw [← ef_121]; rfl)]; exact hg120), hlt116⟩)⟩
  · have b122 : kb 2016 x 2016 := kb_eq c2 kc_2016
    refine lv_iconst (v := 0) hx hb dX4_takeOrderWord_7 (by decide) ?_
    refine lv_goto (tgt := 45) hx hb dX4_takeOrderWord_8 (by decide) ?_
    refine lv_istore_n (lv' := [(2, .int 0), (0, .ref (r 50)), (1, .int x)]) hx hb dX4_takeOrderWord_45 rfl hl (by decide) rfl (fun ls hl => ?_)
    refine lv_iload_n hx hb dX4_takeOrderWord_46 rfl (lv_at hl 0 rfl) ?_
    refine lv_iconst (v := (-1)) hx hb dX4_takeOrderWord_47 (by decide) ?_
    refine lv_icmp_eq (tgt := 63) hx hb dX4_takeOrderWord_48 (by decide) (fun c123 => ?_) (fun c123 => ?_)
    · exact kb_dj c123 kc_0 kc_m1 (by decide)
    · refine lv_aload_n hx hb dX4_takeOrderWord_51 rfl (lv_at hl 1 rfl) ?_
      refine lv_dup hx hb dX4_takeOrderWord_52 rfl ?_
      have hlt124 : i < N := xQ_lt hk0 (ne_4000 (hp3.symm.trans c2) (by decide +kernel))
      have b125 : kb 0 cz4 399 := kb_pos1 hlt124 hN4 hg0
      refine va_get (D := D) (ci := 4) (v := .int (f 1604)) (C := RX4) (T := TX4) (N := 7) hx hb hg inC4 hown hK hP 50 rfl rfl 4 (by decide) (hg _ wt2_69) (fun _ h9 => h9) rfl dX4_takeOrderWord_53 ?_
      refine k_top (z := cz4) ecz4.symm ?_
      refine lv_iconst (v := 1) hx hb dX4_takeOrderWord_56 (by decide) ?_
      refine lv_iadd hx hb dX4_takeOrderWord_57 ?_
      refine lv_topi (fun t126 et126 => ?_)
      have b127 : kb 1 t126 400 := kb_eq et126 (kb_add b125 kc_1 (by decide) (by decide))
      have qt126 : t126.toInt = cz4.toInt + 1 := by rw [et126]; exact kt_addc b125 kc_1 (by decide) (by decide)
      have hg128 : t126.toInt = ((i + 1 : Nat) : Int) := by rw [qt126, hg0]; omega
      refine va_put (D := D) (ci := 4) (v := .int t126) (ty := .int) (C := RX4) (T := TX4) (N := 7) hx hb hg inC4 tyX4 tyX4_ok nmX4 hown hK hP hD hS 50 rfl rfl 4 (by decide) (hg _ wt2_69) (fun _ h9 => h9) rfl (by decide +kernel) rfl rfl (Nat.le_of_ble_eq_true rfl) dX4_takeOrderWord_58 (fun H locs hP hD hS => ?_)
      have hP : va_P D vwCl (xX K r (upd f 1604 t126) a g tx) H := hP
      have hD : va_D A (xX K r (upd f 1604 t126) a g tx) := hD
      refine k_gen (P := fun z => va_P D vwCl (xX K r z a g tx) H ∧ va_D A (xX K r z a g tx) ∧ (xI z a) ∧ (gOK K g.2 tt) ∧ (xEk [12, 13, 14, 32, 38, 44, 49, 50, 832, 838, 844, 849, 850, 1603, 1606, 1632, 1605] f a g z a g) ∧ (xQ z a N ob T pl)) (upd f 1604 t126) ⟨hP, hD, (xI_f hI (fI_st hI.1 1604 (kb_any _) (by decide) (by decide))), hG, (xEk_f hE (by decide)), (xQ_f hk0 (by decide) (by decide))⟩ (fun f_129 ef_129 hq => ?_)
      obtain ⟨hP, hD, hI, hG, hE, hk0⟩ := hq
      refine lv_iload_n hx hb dX4_takeOrderWord_61 rfl (lv_at hl 0 rfl) ?_
      exact kI_ret (v := 0) hx hb hr hlocks rfl hK hS dX4_takeOrderWord_62 (f_129, a, g) hP hD ⟨(kb_w kc_0 (by decide) (by decide)), hI, hG, hE, hk0, (Or.inl ⟨(by decide +kernel), (by rw [(hp3.symm.trans c2)]; decide +kernel), (by rw [(hp3.symm.trans c2)]; decide +kernel), (by show (f_129 1604).toInt = ((i + 1 : Nat) : Int); rw [(show f_129 1604 = t126 from by rw [← ef_129]; rfl)]; exact hg128), hlt124⟩)⟩
set_option maxHeartbeats 4000000 in
def eXSum (d : Nat) : Prop := ∀ (l : Launch) {D : va_G} {K : Nat → ClassId} (r : Nat → Nat) (f : Nat → Int32) (a : Nat → Nat → Int32) (g : xG) (tx tt : va_W) (hT : ∀ c ∈ tt, c ∈ tx) (hI : xI f a) (hG : gOK K g.2 tt) (dp : Int32) (bdp : kb 0 dp 8) (N i n : Nat) (ob : Bool) (T pl : Nat → Int32) (hp0 : xQ f a N ob T pl) (hp1 : (f 1604).toInt = (i : Int)) (hp2 : i ≤ N) (hp3 : (f 1605).toInt = (n : Int) ∧ n ≤ 50) (hp4 : dp.toInt + (d : Int) = 8), kIG l yX4_readSum (Cond.code yX4_readSum cX4_readSum 6 (some .boolean) :: kG) (rmD (2 * d + 8) 0 0) D K [.ref (r 50), .int dp] (xX K r f a g tx) (fun v (u : xS) => kb 0 v 1 ∧ xI u.1 u.2.1 ∧ gOK K u.2.2.2 tt ∧ xEk [12, 13, 14, 32, 38, 44, 49, 50, 832, 838, 844, 849, 850, 1603, 1606, 1632] f a g u.1 u.2.1 u.2.2 ∧ xQ u.1 u.2.1 N ob T pl ∧ (∃ i2 n2 : Nat, (u.1 1604).toInt = (i2 : Int) ∧ i ≤ i2 ∧ i2 ≤ N ∧ ((v = 1 ∧ ((u.1 1605).toInt = (n2 : Int) ∧ n2 ≤ 50) ∧ i < i2 ∧ pG ob T d 0 i n (true, i2, n2)) ∨ (v = 0 ∧ pG ob T d 0 i n (false, i2, 0))))) (fun u => xX K r u.1 u.2.1 u.2.2 tx) 0 0
set_option maxHeartbeats 4000000 in
def eXOp (d : Nat) : Prop := ∀ (l : Launch) {D : va_G} {K : Nat → ClassId} (r : Nat → Nat) (f : Nat → Int32) (a : Nat → Nat → Int32) (g : xG) (tx tt : va_W) (hT : ∀ c ∈ tt, c ∈ tx) (hI : xI f a) (hG : gOK K g.2 tt) (dp : Int32) (bdp : kb 0 dp 8) (N i n : Nat) (ob : Bool) (T pl : Nat → Int32) (hp0 : xQ f a N ob T pl) (hp1 : (f 1604).toInt = (i : Int)) (hp2 : i ≤ N) (hp3 : (f 1605).toInt = (n : Int) ∧ n ≤ 50) (hp4 : dp.toInt + (d : Int) = 8), kIG l yX4_readOperand (Cond.code yX4_readOperand cX4_readOperand 4 (some .boolean) :: kG) (rmD (2 * d + 7) 0 0) D K [.ref (r 50), .int dp] (xX K r f a g tx) (fun v (u : xS) => kb 0 v 1 ∧ xI u.1 u.2.1 ∧ gOK K u.2.2.2 tt ∧ xEk [12, 13, 14, 32, 38, 44, 49, 50, 832, 838, 844, 849, 850, 1603, 1606, 1632] f a g u.1 u.2.1 u.2.2 ∧ xQ u.1 u.2.1 N ob T pl ∧ (∃ i2 n2 : Nat, (u.1 1604).toInt = (i2 : Int) ∧ i ≤ i2 ∧ i2 ≤ N ∧ ((v = 1 ∧ ((u.1 1605).toInt = (n2 : Int) ∧ n2 ≤ 50) ∧ i < i2 ∧ pG ob T d 2 i n (true, i2, n2)) ∨ (v = 0 ∧ pG ob T d 2 i n (false, i2, 0))))) (fun u => xX K r u.1 u.2.1 u.2.2 tx) 0 0
set_option maxHeartbeats 4000000 in
def eXTest (d : Nat) : Prop := ∀ (l : Launch) {D : va_G} {K : Nat → ClassId} (r : Nat → Nat) (f : Nat → Int32) (a : Nat → Nat → Int32) (g : xG) (tx tt : va_W) (hT : ∀ c ∈ tt, c ∈ tx) (hI : xI f a) (hG : gOK K g.2 tt) (dp : Int32) (bdp : kb 0 dp 8) (N i n : Nat) (ob : Bool) (T pl : Nat → Int32) (hp0 : xQ f a N ob T pl) (hp1 : (f 1604).toInt = (i : Int)) (hp2 : i ≤ N) (hp3 : (f 1605).toInt = (n : Int) ∧ n ≤ 50) (hp4 : dp.toInt + (d : Int) = 8), kIG l yX4_readTest (Cond.code yX4_readTest cX4_readTest 6 (some .boolean) :: kG) (rmD (2 * d + 10) 0 0) D K [.ref (r 50), .int dp] (xX K r f a g tx) (fun v (u : xS) => kb 0 v 1 ∧ xI u.1 u.2.1 ∧ gOK K u.2.2.2 tt ∧ xEk [12, 13, 14, 32, 38, 44, 49, 50, 832, 838, 844, 849, 850, 1603, 1606, 1632] f a g u.1 u.2.1 u.2.2 ∧ xQ u.1 u.2.1 N ob T pl ∧ (∃ i2 n2 : Nat, (u.1 1604).toInt = (i2 : Int) ∧ i ≤ i2 ∧ i2 ≤ N ∧ ((v = 1 ∧ ((u.1 1605).toInt = (n2 : Int) ∧ n2 ≤ 50) ∧ i < i2 ∧ pG ob T d 3 i n (true, i2, n2)) ∨ (v = 0 ∧ pG ob T d 3 i n (false, i2, 0))))) (fun u => xX K r u.1 u.2.1 u.2.2 tx) 0 0
set_option maxHeartbeats 4000000 in
def eXPlain (d : Nat) : Prop := ∀ (l : Launch) {D : va_G} {K : Nat → ClassId} (r : Nat → Nat) (f : Nat → Int32) (a : Nat → Nat → Int32) (g : xG) (tx tt : va_W) (hT : ∀ c ∈ tt, c ∈ tx) (hI : xI f a) (hG : gOK K g.2 tt) (dp : Int32) (bdp : kb 0 dp 8) (N i n : Nat) (ob : Bool) (T pl : Nat → Int32) (hp0 : xQ f a N ob T pl) (hp1 : (f 1604).toInt = (i : Int)) (hp2 : i ≤ N) (hp3 : (f 1605).toInt = (n : Int) ∧ n ≤ 50) (hp4 : dp.toInt + (d : Int) = 8), kIG l yX4_readPlain (Cond.code yX4_readPlain cX4_readPlain 4 (some .boolean) :: kG) (rmD (2 * d + 9) 0 0) D K [.ref (r 50), .int dp] (xX K r f a g tx) (fun v (u : xS) => kb 0 v 1 ∧ xI u.1 u.2.1 ∧ gOK K u.2.2.2 tt ∧ xEk [12, 13, 14, 32, 38, 44, 49, 50, 832, 838, 844, 849, 850, 1603, 1606, 1632] f a g u.1 u.2.1 u.2.2 ∧ xQ u.1 u.2.1 N ob T pl ∧ (∃ i2 n2 : Nat, (u.1 1604).toInt = (i2 : Int) ∧ i ≤ i2 ∧ i2 ≤ N ∧ ((v = 1 ∧ ((u.1 1605).toInt = (n2 : Int) ∧ n2 ≤ 50) ∧ i < i2 ∧ pG ob T d 5 i n (true, i2, n2)) ∨ (v = 0 ∧ pG ob T d 5 i n (false, i2, 0))))) (fun u => xX K r u.1 u.2.1 u.2.2 tx) 0 0
set_option maxHeartbeats 4000000 in
set_option maxRecDepth 100000 in
theorem y_readOperand (d : Nat) (ih : ∀ ee, d = ee + 1 → eXSum ee) (l : Launch) {D : va_G} {K : Nat → ClassId} (r : Nat → Nat) (f : Nat → Int32) (a : Nat → Nat → Int32) (g : xG) (tx tt : va_W) (hT : ∀ c ∈ tt, c ∈ tx) (hI : xI f a) (hG : gOK K g.2 tt) (dp : Int32) (bdp : kb 0 dp 8) (N i n : Nat) (ob : Bool) (T pl : Nat → Int32) (hp0 : xQ f a N ob T pl) (hp1 : (f 1604).toInt = (i : Int)) (hp2 : i ≤ N) (hp3 : (f 1605).toInt = (n : Int) ∧ n ≤ 50) (hp4 : dp.toInt + (d : Int) = 8) : kIG l yX4_readOperand (Cond.code yX4_readOperand cX4_readOperand 4 (some .boolean) :: kG) (rmD (2 * d + 7) 0 0) D K [.ref (r 50), .int dp] (xX K r f a g tx) (fun v (u : xS) => kb 0 v 1 ∧ xI u.1 u.2.1 ∧ gOK K u.2.2.2 tt ∧ xEk [12, 13, 14, 32, 38, 44, 49, 50, 832, 838, 844, 849, 850, 1603, 1606, 1632] f a g u.1 u.2.1 u.2.2 ∧ xQ u.1 u.2.1 N ob T pl ∧ (∃ i2 n2 : Nat, (u.1 1604).toInt = (i2 : Int) ∧ i ≤ i2 ∧ i2 ≤ N ∧ ((v = 1 ∧ ((u.1 1605).toInt = (n2 : Int) ∧ n2 ≤ 50) ∧ i < i2 ∧ pG ob T d 2 i n (true, i2, n2)) ∨ (v = 0 ∧ pG ob T d 2 i n (false, i2, 0))))) (fun u => xX K r u.1 u.2.1 u.2.2 tx) 0 0 := by
  refine kIE.of (cc := cX4_readOperand) (maxL := 4) (ret := (some .boolean)) (by decide) rfl (Nat.le_of_ble_eq_true rfl) ?_
  intro p e s m below meth c A hx hb hr hml hown hts hlocks hnm hK hP hD hS hA hV ls hl
  have hE : xEk [12, 13, 14, 32, 38, 44, 49, 50, 832, 838, 844, 849, 850, 1603, 1606, 1632] f a g f a g := xEk_rf
  have hg : ∀ w ∈ kG, w.before _ s = true := fun w h => hts w (List.mem_cons_of_mem _ h)
  have hown : s.vm.findClass RX4 = some m.cls := hown
  have hl : lv_has ls 4 [(0, .ref (r 50)), (1, .int dp)] := hl
  have hk0 := hp0
  have hN4 := hp0.2.1
  obtain ⟨cz4, ecz4⟩ : ∃ z : Int32, z = f 1604 := ⟨_, rfl⟩
  have hg0 : cz4.toInt = (i : Int) := by rw [ecz4]; exact hp1
  have b1 : kb 0 cz4 400 := kb_pos hp2 hN4 hg0
  obtain ⟨cz5, ecz5⟩ : ∃ z : Int32, z = f 1605 := ⟨_, rfl⟩
  have hn5 : cz5.toInt = (n : Int) := by rw [ecz5]; exact hp3.1
  have hl5 := hp3.2
  have b2 : kb 0 cz5 50 := ⟨by omega, by omega⟩
  cases ob
  · refine lv_aload_n hx hb dX4_readOperand_0 rfl (lv_at hl 0 rfl) ?_
    refine kIG.callW (As := []) (rest := []) ⟨hx, hb, hml, hown, hg⟩ (y_inHand l r f a g tx tt hT hI hG   N (i) false T pl hk0 (by rw [ecz4.symm]; exact hg0) hp2) (cwV 0 hg (kgV wt3_238 wt4_0 wp1_12 wt1_7 wt4_1) rfl rfl rfl (by decide +kernel) ⟨by dsimp only [rmD]; omega, by dsimp only [rmD]; omega⟩) hV hK hP hD hS hA (50) 4 rfl rfl rfl hl.1 rfl (Nat.le_of_ble_eq_true rfl) dX4_readOperand_1 ⟨Nat.le_refl _, Nat.le_refl _⟩ (fun v4 u5 H locs hw3 hP hD hS => ?_)
    have hP : va_P D vwCl (xX K r f a g tx) H := hP
    have hD : va_D A (xX K r f a g tx) := hD
    have b6 : kb 0 v4 4000 := kb_eq hw3.2 (hk0.2.2.2.2.2.2 (i))
    refine lv_istore_n (lv' := [(2, .int v4), (0, .ref (r 50)), (1, .int dp)]) hx hb dX4_readOperand_4 rfl hl (by decide) rfl (fun ls hl => ?_)
    refine lv_iload_n hx hb dX4_readOperand_5 rfl (lv_at hl 0 rfl) ?_
    refine lv_sipush (v := 3091) hx hb dX4_readOperand_6 (by decide) ?_
    refine lv_icmp_ne (tgt := 64) hx hb dX4_readOperand_9 (by decide) (fun c7 => ?_) (fun c7 => ?_)
    · refine lv_aload_n hx hb dX4_readOperand_64 rfl (lv_at hl 1 rfl) ?_
      refine va_get (D := D) (ci := 4) (v := .int (f 1605)) (C := RX4) (T := TX4) (N := 7) hx hb hg inC4 hown hK hP 50 rfl rfl 5 (by decide) (hg _ wt2_70) (fun _ h9 => h9) rfl dX4_readOperand_65 ?_
      refine k_top (z := cz5) ecz5.symm ?_
      refine lv_bipush (v := 50) hx hb dX4_readOperand_68 (by decide) ?_
      refine lv_icmp_lt (tgt := 75) hx hb dX4_readOperand_70 (by decide) (fun c8 => ?_) (fun c8 => ?_)
      · have h9 := (kc_lt c8)
        have b10 : kb 0 cz5 49 := kr_lt1 h9 b2 kc_50 (by decide)
        refine lv_aload_n hx hb dX4_readOperand_75 rfl (lv_at hl 1 rfl) ?_
        refine lv_dup hx hb dX4_readOperand_76 rfl ?_
        refine va_get (D := D) (ci := 4) (v := .int (f 1605)) (C := RX4) (T := TX4) (N := 7) hx hb hg inC4 hown hK hP 50 rfl rfl 5 (by decide) (hg _ wt2_70) (fun _ h9 => h9) rfl dX4_readOperand_77 ?_
        refine k_top (z := cz5) ecz5.symm ?_
        refine lv_iconst (v := 1) hx hb dX4_readOperand_80 (by decide) ?_
        refine lv_iadd hx hb dX4_readOperand_81 ?_
        refine lv_topi (fun t11 et11 => ?_)
        have b12 : kb 1 t11 50 := kb_eq et11 (kb_add b10 kc_1 (by decide) (by decide))
        have qt11 : t11.toInt = cz5.toInt + 1 := by rw [et11]; exact kt_addc b10 kc_1 (by decide) (by decide)
        refine va_put (D := D) (ci := 4) (v := .int t11) (ty := .int) (C := RX4) (T := TX4) (N := 7) hx hb hg inC4 tyX4 tyX4_ok nmX4 hown hK hP hD hS 50 rfl rfl 5 (by decide) (hg _ wt2_70) (fun _ h9 => h9) rfl (by decide +kernel) rfl rfl (Nat.le_of_ble_eq_true rfl) dX4_readOperand_82 (fun H locs hP hD hS => ?_)
        have hP : va_P D vwCl (xX K r (upd f 1605 t11) a g tx) H := hP
        have hD : va_D A (xX K r (upd f 1605 t11) a g tx) := hD
        refine k_gen (P := fun z => va_P D vwCl (xX K r z a g tx) H ∧ va_D A (xX K r z a g tx) ∧ (xI z a) ∧ (gOK K g.2 tt) ∧ (xEk [12, 13, 14, 32, 38, 44, 49, 50, 832, 838, 844, 849, 850, 1603, 1606, 1632] f a g z a g) ∧ (xQ z a N false T pl)) (upd f 1605 t11) ⟨hP, hD, (xI_f hI (fI_st hI.1 1605 (kb_any _) (by decide) (by decide))), hG, (xEk_f hE (by decide)), (xQ_f hk0 (by decide) (by decide))⟩ (fun f_13 ef_13 hq => ?_)
        obtain ⟨hP, hD, hI, hG, hE, hk0⟩ := hq
        have hz14 : t11.toInt = ((n + 1 : Nat) : Int) := by have w1 := qt11; omega
        have hz15 : n + 1 ≤ 50 := by have w1 := (b10).2; omega
        refine lv_iload_n hx hb dX4_readOperand_85 rfl (lv_at hl 0 rfl) ?_
        refine lv_if_lt (tgt := 118) hx hb dX4_readOperand_86 (by decide) (fun c16 => ?_) (fun c16 => ?_)
        · have h17 := (kc_lt c16)
          exact kb_no (kr_lt1 h17 b6 kc_0 (H := (-1)) (by decide)) (by decide)
        · have h18 := (kc_nlt c16)
          refine lv_iload_n hx hb dX4_readOperand_89 rfl (lv_at hl 0 rfl) ?_
          refine lv_sipush (v := 1000) hx hb dX4_readOperand_90 (by decide) ?_
          refine lv_icmp_gt (tgt := 118) hx hb dX4_readOperand_93 (by decide) (fun c19 => ?_) (fun c19 => ?_)
          · have h20 := (kc_lt c19)
            have b21 : kb 1001 v4 4000 := kr_lt2 h20 kc_1000 b6 (by decide)
            refine lv_aload_n hx hb dX4_readOperand_118 rfl (lv_at hl 1 rfl) ?_
            refine va_get (D := D) (ci := 4) (v := .int (f_13 1606)) (C := RX4) (T := TX4) (N := 7) hx hb hg inC4 hown hK hP 50 rfl rfl 6 (by decide) (hg _ wt2_71) (fun _ h9 => h9) rfl dX4_readOperand_119 ?_
            refine k_top (z := 0) ((show f_13 1606 = f 1606 from by rw [← ef_13]; rfl).trans hp0.2.2.1) ?_
            refine lv_if_eq (tgt := 133) hx hb dX4_readOperand_122 (by decide) (fun c22 => ?_) (fun c22 => ?_)
            · refine lv_aload_n hx hb dX4_readOperand_133 rfl (lv_at hl 1 rfl) ?_
              refine lv_iload_n hx hb dX4_readOperand_134 rfl (lv_at hl 0 rfl) ?_
              refine kIG.callW (As := [.int v4]) (rest := []) ⟨hx, hb, hml, hown, hg⟩ (y_takeLawWord l r f_13 a g tx tt hT hI hG v4 (kb_w b21 (by decide) (by decide)) N (i) false T pl hk0 (by rw [((show f_13 1604 = f 1604 from by rw [← ef_13]; rfl).trans ecz4.symm)]; exact hg0) hp2 hw3.2) (cwV 1 hg (kgV wt4_22 wt4_24 wp2_0 wt1_7 wt4_25) rfl rfl rfl (by decide +kernel) ⟨by dsimp only [rmD]; omega, by dsimp only [rmD]; omega⟩) hV hK hP hD hS hA (50) 4 rfl rfl rfl hl.1 rfl (Nat.le_of_ble_eq_true rfl) dX4_readOperand_135 ⟨Nat.le_refl _, Nat.le_refl _⟩ (fun v24 u25 H locs hw23 hP hD hS => ?_)
              obtain ⟨f26, a27, g28⟩ := u25
              have hP : va_P D vwCl (xX K r f26 a27 g28 tx) H := hP
              have hD : va_D A (xX K r f26 a27 g28 tx) := hD
              have hI : xI f26 a27 := hw23.2.1
              have hG : gOK K g28.2 tt := hw23.2.2.1
              have eE29 : xEk [12, 13, 14, 32, 38, 44, 49, 50, 832, 838, 844, 849, 850, 1603, 1606, 1632, 1605] f_13 a g f26 a27 g28 := hw23.2.2.2.1
              have hE : xEk [12, 13, 14, 32, 38, 44, 49, 50, 832, 838, 844, 849, 850, 1603, 1606, 1632] f a g f26 a27 g28 := xEk_tr hE (xEk_w (by decide) eE29)
              have hk0 : xQ f26 a27 N false T pl := hw23.2.2.2.2.1
              rcases hw23.2.2.2.2.2 with ⟨hnk30, hbk30, hpk30, hlk30⟩ | ⟨hvk30, hbk30, hpk30⟩
              · obtain ⟨gv31, egv31⟩ : ∃ z : Int32, z = f26 1604 := ⟨_, rfl⟩
                have hg32 : gv31.toInt = ((i + 1 : Nat) : Int) := by rw [egv31]; exact hpk30
                have b33 : kb 0 gv31 400 := kb_pos hlk30 hN4 hg32
                refine lv_istore_n (lv' := [(3, .int v24), (2, .int v4), (0, .ref (r 50)), (1, .int dp)]) hx hb dX4_readOperand_138 rfl hl (by decide) rfl (fun ls hl => ?_)
                refine lv_iload_n hx hb dX4_readOperand_139 rfl (lv_at hl 0 rfl) ?_
                refine lv_iconst (v := (-1)) hx hb dX4_readOperand_140 (by decide) ?_
                refine lv_icmp_ne (tgt := 146) hx hb dX4_readOperand_141 (by decide) (fun c34 => ?_) (fun c34 => ?_)
                · refine lv_aload_n hx hb dX4_readOperand_146 rfl (lv_at hl 2 rfl) ?_
                  refine va_get (D := D) (ci := 4) (v := .ref (r 51)) (C := RX4) (T := TX4) (N := 7) hx hb hg inC4 hown hK hP 50 rfl rfl 0 (by decide) (hg _ wt2_64) (fun _ h9 => h9) rfl dX4_readOperand_147 ?_
                  refine lv_iconst (v := 1) hx hb dX4_readOperand_150 (by decide) ?_
                  refine lv_iload_n hx hb dX4_readOperand_151 rfl (lv_at hl 0 rfl) ?_
                  refine kIG.callW (As := [.int 1, .int v24]) (rest := []) ⟨hx, hb, hml, hown, hg⟩ (y_emit l r f26 a27 g28 tx tt hT hI hG 1 v24 (kb_w kc_1 (by decide) (by decide)) ) (cwV 2 hg (kgV wt4_14 wt4_15 wt4_16 wt1_8 wt4_17) rfl rfl rfl (by decide +kernel) ⟨by dsimp only [rmD]; omega, by dsimp only [rmD]; omega⟩) hV hK hP hD hS hA (51) 10 rfl rfl rfl hl.1 rfl (Nat.le_of_ble_eq_true rfl) dX4_readOperand_152 ⟨Nat.le_refl _, Nat.le_refl _⟩ (fun v36 u37 H locs hw35 hP hD hS => ?_)
                  obtain ⟨f38, a39, g40⟩ := u37
                  have hP : va_P D vwCl (xX K r f38 a39 g40 tx) H := hP
                  have hD : va_D A (xX K r f38 a39 g40 tx) := hD
                  have hI : xI f38 a39 := hw35.2.1
                  have hG : gOK K g40.2 tt := hw35.2.2.1
                  have eE41 : xEk [12, 13, 14, 32, 38, 44, 49, 50, 832, 838, 844, 849, 850, 1603, 1604, 1605, 1606, 1632] f26 a27 g28 f38 a39 g40 := hw35.2.2.2.1
                  have hE : xEk [12, 13, 14, 32, 38, 44, 49, 50, 832, 838, 844, 849, 850, 1603, 1606, 1632] f a g f38 a39 g40 := xEk_tr hE (xEk_w (by decide) eE41)
                  have hk0 : xQ f38 a39 N false T pl := xQ_c hk0 (eE41.1 1603 rfl) (eE41.1 1606 rfl) hw35.2.2.2.2
                  refine lv_pop hx hb dX4_readOperand_155 rfl ?_
                  refine lv_iconst (v := 1) hx hb dX4_readOperand_156 (by decide) ?_
                  exact kI_ret (v := 1) hx hb hr hlocks (by decide +kernel) hK hS dX4_readOperand_157 (f38, a39, g40) hP hD ⟨(kb_w kc_1 (by decide) (by decide)), hI, hG, hE, hk0, ⟨i + 1, n + 1, (by show (f38 1604).toInt = ((i + 1 : Nat) : Int); rw [((eE41.1 1604 rfl).trans egv31.symm)]; exact hg32), (Nat.le_succ_of_le (Nat.le_refl i)), hlk30, Or.inl ⟨rfl, ⟨(by show (f38 1605).toInt = ((n + 1 : Nat) : Int); rw [((eE41.1 1605 rfl).trans ((eE29.1 1605 rfl).trans (show f_13 1605 = t11 from by rw [← ef_13]; rfl)))]; exact hz14), hz15⟩, (by omega), (pi_2l (fun q => c7 (hw3.2.trans q)) (lfx_l (kb_eq hw3.2.symm hbk30)).1 (by have w1 := (b10).2; omega) (lfx_l (kb_eq hw3.2.symm hbk30)).2)⟩⟩⟩
                · exact absurd c34 hnk30
              · refine k_top (z := -1) hvk30 ?_
                obtain ⟨gv42, egv42⟩ : ∃ z : Int32, z = f26 1604 := ⟨_, rfl⟩
                have hg43 : gv42.toInt = ((i : Nat) : Int) := by rw [egv42]; exact hpk30
                have b44 : kb 0 gv42 400 := kb_pos hp2 hN4 hg43
                refine lv_istore_n (lv' := [(3, .int (-1)), (2, .int v4), (0, .ref (r 50)), (1, .int dp)]) hx hb dX4_readOperand_138 rfl hl (by decide) rfl (fun ls hl => ?_)
                refine lv_iload_n hx hb dX4_readOperand_139 rfl (lv_at hl 0 rfl) ?_
                refine lv_iconst (v := (-1)) hx hb dX4_readOperand_140 (by decide) ?_
                refine lv_icmp_ne (tgt := 146) hx hb dX4_readOperand_141 (by decide) (fun c45 => ?_) (fun c45 => ?_)
                · exact kb_nsame c45 kc_m1 kc_m1
                · refine lv_iconst (v := 0) hx hb dX4_readOperand_144 (by decide) ?_
                  exact kI_ret (v := 0) hx hb hr hlocks (by decide +kernel) hK hS dX4_readOperand_145 (f26, a27, g28) hP hD ⟨(kb_w kc_0 (by decide) (by decide)), hI, hG, hE, hk0, ⟨i, 0, (by show (f26 1604).toInt = ((i : Nat) : Int); rw [egv42.symm]; exact hg43), (Nat.le_refl i), hp2, Or.inr ⟨rfl, (pi_2x (fun q => c7 (hw3.2.trans q)) (lfx_fl (fun q => (fun q => by have w1 := q.2; have w2 := (b21).1; omega) (kb_eq hw3.2 q)) (fun q => hbk30 (kb_eq hw3.2 q))))⟩⟩⟩
            · exact kb_nsame c22 kc_0 kc_0
          · have h46 := (kc_nlt c19)
            have b47 : kb 0 v4 1000 := kr_le1 h46 b6 kc_1000
            refine lv_aload_n hx hb dX4_readOperand_96 rfl (lv_at hl 1 rfl) ?_
            refine lv_dup hx hb dX4_readOperand_97 rfl ?_
            have hlt48 : i < N := xQ_lt hk0 (fun q => by have w1 := (b47).2; have w2 := congrArg Int32.toInt ((hw3.2).trans q); have w3 := i4000; omega)
            have b49 : kb 0 cz4 399 := kb_pos1 hlt48 hN4 hg0
            refine va_get (D := D) (ci := 4) (v := .int (f_13 1604)) (C := RX4) (T := TX4) (N := 7) hx hb hg inC4 hown hK hP 50 rfl rfl 4 (by decide) (hg _ wt2_69) (fun _ h9 => h9) rfl dX4_readOperand_98 ?_
            refine k_top (z := cz4) ((show f_13 1604 = f 1604 from by rw [← ef_13]; rfl).trans ecz4.symm) ?_
            refine lv_iconst (v := 1) hx hb dX4_readOperand_101 (by decide) ?_
            refine lv_iadd hx hb dX4_readOperand_102 ?_
            refine lv_topi (fun t50 et50 => ?_)
            have b51 : kb 1 t50 400 := kb_eq et50 (kb_add b49 kc_1 (by decide) (by decide))
            have qt50 : t50.toInt = cz4.toInt + 1 := by rw [et50]; exact kt_addc b49 kc_1 (by decide) (by decide)
            have hg52 : t50.toInt = ((i + 1 : Nat) : Int) := by rw [qt50, hg0]; omega
            refine va_put (D := D) (ci := 4) (v := .int t50) (ty := .int) (C := RX4) (T := TX4) (N := 7) hx hb hg inC4 tyX4 tyX4_ok nmX4 hown hK hP hD hS 50 rfl rfl 4 (by decide) (hg _ wt2_69) (fun _ h9 => h9) rfl (by decide +kernel) rfl rfl (Nat.le_of_ble_eq_true rfl) dX4_readOperand_103 (fun H locs hP hD hS => ?_)
            have hP : va_P D vwCl (xX K r (upd f_13 1604 t50) a g tx) H := hP
            have hD : va_D A (xX K r (upd f_13 1604 t50) a g tx) := hD
            refine k_gen (P := fun z => va_P D vwCl (xX K r z a g tx) H ∧ va_D A (xX K r z a g tx) ∧ (xI z a) ∧ (gOK K g.2 tt) ∧ (xEk [12, 13, 14, 32, 38, 44, 49, 50, 832, 838, 844, 849, 850, 1603, 1606, 1632] f a g z a g) ∧ (xQ z a N false T pl)) (upd f_13 1604 t50) ⟨hP, hD, (xI_f hI (fI_st hI.1 1604 (kb_any _) (by decide) (by decide))), hG, (xEk_f hE (by decide)), (xQ_f hk0 (by decide) (by decide))⟩ (fun f_53 ef_53 hq => ?_)
            obtain ⟨hP, hD, hI, hG, hE, hk0⟩ := hq
            refine lv_aload_n hx hb dX4_readOperand_106 rfl (lv_at hl 1 rfl) ?_
            refine va_get (D := D) (ci := 4) (v := .ref (r 51)) (C := RX4) (T := TX4) (N := 7) hx hb hg inC4 hown hK hP 50 rfl rfl 0 (by decide) (hg _ wt2_64) (fun _ h9 => h9) rfl dX4_readOperand_107 ?_
            refine lv_iconst (v := 0) hx hb dX4_readOperand_110 (by decide) ?_
            refine lv_iload_n hx hb dX4_readOperand_111 rfl (lv_at hl 0 rfl) ?_
            refine kIG.callW (As := [.int 0, .int v4]) (rest := []) ⟨hx, hb, hml, hown, hg⟩ (y_emit l r f_53 a g tx tt hT hI hG 0 v4 (kb_w kc_0 (by decide) (by decide)) ) (cwV 2 hg (kgV wt4_14 wt4_15 wt4_16 wt1_8 wt4_17) rfl rfl rfl (by decide +kernel) ⟨by dsimp only [rmD]; omega, by dsimp only [rmD]; omega⟩) hV hK hP hD hS hA (51) 10 rfl rfl rfl hl.1 rfl (Nat.le_of_ble_eq_true rfl) dX4_readOperand_112 ⟨Nat.le_refl _, Nat.le_refl _⟩ (fun v55 u56 H locs hw54 hP hD hS => ?_)
            obtain ⟨f57, a58, g59⟩ := u56
            have hP : va_P D vwCl (xX K r f57 a58 g59 tx) H := hP
            have hD : va_D A (xX K r f57 a58 g59 tx) := hD
            have hI : xI f57 a58 := hw54.2.1
            have hG : gOK K g59.2 tt := hw54.2.2.1
            have eE60 : xEk [12, 13, 14, 32, 38, 44, 49, 50, 832, 838, 844, 849, 850, 1603, 1604, 1605, 1606, 1632] f_53 a g f57 a58 g59 := hw54.2.2.2.1
            have hE : xEk [12, 13, 14, 32, 38, 44, 49, 50, 832, 838, 844, 849, 850, 1603, 1606, 1632] f a g f57 a58 g59 := xEk_tr hE (xEk_w (by decide) eE60)
            have hk0 : xQ f57 a58 N false T pl := xQ_c hk0 (eE60.1 1603 rfl) (eE60.1 1606 rfl) hw54.2.2.2.2
            refine lv_pop hx hb dX4_readOperand_115 rfl ?_
            refine lv_iconst (v := 1) hx hb dX4_readOperand_116 (by decide) ?_
            exact kI_ret (v := 1) hx hb hr hlocks (by decide +kernel) hK hS dX4_readOperand_117 (f57, a58, g59) hP hD ⟨(kb_w kc_1 (by decide) (by decide)), hI, hG, hE, hk0, ⟨i + 1, n + 1, (by show (f57 1604).toInt = ((i + 1 : Nat) : Int); rw [((eE60.1 1604 rfl).trans (show f_53 1604 = t50 from by rw [← ef_53]; rfl))]; exact hg52), (Nat.le_succ_of_le (Nat.le_refl i)), hlt48, Or.inl ⟨rfl, ⟨(by show (f57 1605).toInt = ((n + 1 : Nat) : Int); rw [((eE60.1 1605 rfl).trans ((show f_53 1605 = f_13 1605 from by rw [← ef_53]; rfl).trans (show f_13 1605 = t11 from by rw [← ef_13]; rfl)))]; exact hz14), hz15⟩, (by omega), (pi_2l (fun q => c7 (hw3.2.trans q)) (lfx_n (ob := false) (kb_eq hw3.2.symm b47)).1 (by have w1 := (b10).2; omega) (lfx_n (ob := false) (kb_eq hw3.2.symm b47)).2)⟩⟩⟩
      · have h61 := (kc_nlt c8)
        have b62 : kb 50 cz5 50 := kr_le2 h61 kc_50 b2
        refine lv_iconst (v := 0) hx hb dX4_readOperand_73 (by decide) ?_
        exact kI_ret (v := 0) hx hb hr hlocks (by decide +kernel) hK hS dX4_readOperand_74 (f, a, g) hP hD ⟨(kb_w kc_0 (by decide) (by decide)), hI, hG, hE, hk0, ⟨i, 0, (by show (f 1604).toInt = ((i : Nat) : Int); rw [ecz4.symm]; exact hg0), (Nat.le_refl i), hp2, Or.inr ⟨rfl, (pi_2e (fun q => c7 (hw3.2.trans q)) (by have w1 := (b62).1; omega))⟩⟩⟩
    · have b63 : kb 3091 v4 3091 := kb_eq c7 kc_3091
      refine lv_iload_n hx hb dX4_readOperand_12 rfl (lv_at hl 2 rfl) ?_
      refine lv_bipush (v := 8) hx hb dX4_readOperand_13 (by decide) ?_
      refine lv_icmp_lt (tgt := 20) hx hb dX4_readOperand_15 (by decide) (fun c64 => ?_) (fun c64 => ?_)
      · have h65 := (kc_lt c64)
        have b66 : kb 0 dp 7 := kr_lt1 h65 bdp kc_8 (by decide)
        refine lv_aload_n hx hb dX4_readOperand_20 rfl (lv_at hl 1 rfl) ?_
        refine lv_dup hx hb dX4_readOperand_21 rfl ?_
        have hlt67 : i < N := xQ_lt hk0 (ne_4000 (hw3.2.symm.trans c7) (by decide +kernel))
        have b68 : kb 0 cz4 399 := kb_pos1 hlt67 hN4 hg0
        refine va_get (D := D) (ci := 4) (v := .int (f 1604)) (C := RX4) (T := TX4) (N := 7) hx hb hg inC4 hown hK hP 50 rfl rfl 4 (by decide) (hg _ wt2_69) (fun _ h9 => h9) rfl dX4_readOperand_22 ?_
        refine k_top (z := cz4) ecz4.symm ?_
        refine lv_iconst (v := 1) hx hb dX4_readOperand_25 (by decide) ?_
        refine lv_iadd hx hb dX4_readOperand_26 ?_
        refine lv_topi (fun t69 et69 => ?_)
        have b70 : kb 1 t69 400 := kb_eq et69 (kb_add b68 kc_1 (by decide) (by decide))
        have qt69 : t69.toInt = cz4.toInt + 1 := by rw [et69]; exact kt_addc b68 kc_1 (by decide) (by decide)
        have hg71 : t69.toInt = ((i + 1 : Nat) : Int) := by rw [qt69, hg0]; omega
        refine va_put (D := D) (ci := 4) (v := .int t69) (ty := .int) (C := RX4) (T := TX4) (N := 7) hx hb hg inC4 tyX4 tyX4_ok nmX4 hown hK hP hD hS 50 rfl rfl 4 (by decide) (hg _ wt2_69) (fun _ h9 => h9) rfl (by decide +kernel) rfl rfl (Nat.le_of_ble_eq_true rfl) dX4_readOperand_27 (fun H locs hP hD hS => ?_)
        have hP : va_P D vwCl (xX K r (upd f 1604 t69) a g tx) H := hP
        have hD : va_D A (xX K r (upd f 1604 t69) a g tx) := hD
        refine k_gen (P := fun z => va_P D vwCl (xX K r z a g tx) H ∧ va_D A (xX K r z a g tx) ∧ (xI z a) ∧ (gOK K g.2 tt) ∧ (xEk [12, 13, 14, 32, 38, 44, 49, 50, 832, 838, 844, 849, 850, 1603, 1606, 1632] f a g z a g) ∧ (xQ z a N false T pl)) (upd f 1604 t69) ⟨hP, hD, (xI_f hI (fI_st hI.1 1604 (kb_any _) (by decide) (by decide))), hG, (xEk_f hE (by decide)), (xQ_f hk0 (by decide) (by decide))⟩ (fun f_72 ef_72 hq => ?_)
        obtain ⟨hP, hD, hI, hG, hE, hk0⟩ := hq
        obtain ⟨ee, hd⟩ : ∃ ee, d = ee + 1 := ⟨d - 1, by have w1 := hp4; have w2 := (b66).2; omega⟩
        refine lv_aload_n hx hb dX4_readOperand_30 rfl (lv_at hl 1 rfl) ?_
        refine lv_iload_n hx hb dX4_readOperand_31 rfl (lv_at hl 2 rfl) ?_
        refine lv_iconst (v := 1) hx hb dX4_readOperand_32 (by decide) ?_
        refine lv_iadd hx hb dX4_readOperand_33 ?_
        refine lv_topi (fun t73 et73 => ?_)
        have b74 : kb 1 t73 8 := kb_eq et73 (kb_add b66 kc_1 (by decide) (by decide))
        have qt73 : t73.toInt = dp.toInt + 1 := by rw [et73]; exact kt_addc b66 kc_1 (by decide) (by decide)
        refine kIG.callW (As := [.int t73]) (rest := []) ⟨hx, hb, hml, hown, hg⟩ ((ih ee hd) l r f_72 a g tx tt hT hI hG t73 (kb_w b74 (by decide) (by decide)) N (i + 1) (n) false T pl hk0 (by rw [(show f_72 1604 = t69 from by rw [← ef_72]; rfl)]; exact hg71) hlt67 ⟨(by rw [((show f_72 1605 = f 1605 from by rw [← ef_72]; rfl).trans ecz5.symm)]; exact hn5), hl5⟩ (by have w1 := hp4; have w2 := qt73; omega)) (cwV 1 hg (kgV wt4_6 wt4_8 wp1_13 wt1_7 wt4_9) rfl rfl rfl (by decide +kernel) ⟨by dsimp only [rmD]; omega, by dsimp only [rmD]; omega⟩) hV hK hP hD hS hA (50) 4 rfl rfl rfl hl.1 rfl (Nat.le_of_ble_eq_true rfl) dX4_readOperand_34 ⟨Nat.le_refl _, Nat.le_refl _⟩ (fun v76 u77 H locs hw75 hP hD hS => ?_)
        obtain ⟨f78, a79, g80⟩ := u77
        have hP : va_P D vwCl (xX K r f78 a79 g80 tx) H := hP
        have hD : va_D A (xX K r f78 a79 g80 tx) := hD
        have hI : xI f78 a79 := hw75.2.1
        have hG : gOK K g80.2 tt := hw75.2.2.1
        have eE81 : xEk [12, 13, 14, 32, 38, 44, 49, 50, 832, 838, 844, 849, 850, 1603, 1606, 1632] f_72 a g f78 a79 g80 := hw75.2.2.2.1
        have hE : xEk [12, 13, 14, 32, 38, 44, 49, 50, 832, 838, 844, 849, 850, 1603, 1606, 1632] f a g f78 a79 g80 := xEk_tr hE eE81
        have hk0 : xQ f78 a79 N false T pl := hw75.2.2.2.2.1
        obtain ⟨ik82, nk82, hgk82, hlek82, hNk82, hck82⟩ := hw75.2.2.2.2.2
        rcases hck82 with ⟨hvk82, h3k82, hltk82, hGk82⟩ | ⟨hvk82, hGk82⟩
        · refine k_top (z := 1) hvk82 ?_
          obtain ⟨gv83, egv83⟩ : ∃ z : Int32, z = f78 1604 := ⟨_, rfl⟩
          have hg84 : gv83.toInt = ((ik82 : Nat) : Int) := by rw [egv83]; exact hgk82
          have b85 : kb 0 gv83 400 := kb_pos hNk82 hN4 hg84
          obtain ⟨z86, ez86⟩ : ∃ z : Int32, z = f78 1605 := ⟨_, rfl⟩
          have hzz86 : z86.toInt = ((nk82 : Nat) : Int) := by rw [ez86]; exact h3k82.1
          have b87 : kb 0 z86 50 := ⟨by omega, by have w1 := h3k82.2; omega⟩
          refine lv_if_eq (tgt := 50) hx hb dX4_readOperand_37 (by decide) (fun c88 => ?_) (fun c88 => ?_)
          · exact kb_dj c88 kc_1 kc_0 (by decide)
          · refine lv_aload_n hx hb dX4_readOperand_40 rfl (lv_at hl 1 rfl) ?_
            refine kIG.callW (As := []) (rest := []) ⟨hx, hb, hml, hown, hg⟩ (y_inHand l r f78 a79 g80 tx tt hT hI hG   N (ik82) false T pl hk0 (by rw [egv83.symm]; exact hg84) hNk82) (cwV 0 hg (kgV wt3_238 wt4_0 wp1_12 wt1_7 wt4_1) rfl rfl rfl (by decide +kernel) ⟨by dsimp only [rmD]; omega, by dsimp only [rmD]; omega⟩) hV hK hP hD hS hA (50) 4 rfl rfl rfl hl.1 rfl (Nat.le_of_ble_eq_true rfl) dX4_readOperand_41 ⟨Nat.le_refl _, Nat.le_refl _⟩ (fun v90 u91 H locs hw89 hP hD hS => ?_)
            have hP : va_P D vwCl (xX K r f78 a79 g80 tx) H := hP
            have hD : va_D A (xX K r f78 a79 g80 tx) := hD
            have b92 : kb 0 v90 4000 := kb_eq hw89.2 (hk0.2.2.2.2.2.2 (ik82))
            refine lv_sipush (v := 3093) hx hb dX4_readOperand_44 (by decide) ?_
            refine lv_icmp_eq (tgt := 52) hx hb dX4_readOperand_47 (by decide) (fun c93 => ?_) (fun c93 => ?_)
            · have b94 : kb 3093 v90 3093 := kb_eq c93 kc_3093
              refine lv_aload_n hx hb dX4_readOperand_52 rfl (lv_at hl 1 rfl) ?_
              refine lv_dup hx hb dX4_readOperand_53 rfl ?_
              have hlt95 : ik82 < N := xQ_lt hk0 (ne_4000 (hw89.2.symm.trans c93) (by decide +kernel))
              have b96 : kb 0 gv83 399 := kb_pos1 hlt95 hN4 hg84
              refine va_get (D := D) (ci := 4) (v := .int (f78 1604)) (C := RX4) (T := TX4) (N := 7) hx hb hg inC4 hown hK hP 50 rfl rfl 4 (by decide) (hg _ wt2_69) (fun _ h9 => h9) rfl dX4_readOperand_54 ?_
              refine k_top (z := gv83) egv83.symm ?_
              refine lv_iconst (v := 1) hx hb dX4_readOperand_57 (by decide) ?_
              refine lv_iadd hx hb dX4_readOperand_58 ?_
              refine lv_topi (fun t97 et97 => ?_)
              have b98 : kb 1 t97 400 := kb_eq et97 (kb_add b96 kc_1 (by decide) (by decide))
              have qt97 : t97.toInt = gv83.toInt + 1 := by rw [et97]; exact kt_addc b96 kc_1 (by decide) (by decide)
              have hg99 : t97.toInt = ((ik82 + 1 : Nat) : Int) := by rw [qt97, hg84]; omega
              refine va_put (D := D) (ci := 4) (v := .int t97) (ty := .int) (C := RX4) (T := TX4) (N := 7) hx hb hg inC4 tyX4 tyX4_ok nmX4 hown hK hP hD hS 50 rfl rfl 4 (by decide) (hg _ wt2_69) (fun _ h9 => h9) rfl (by decide +kernel) rfl rfl (Nat.le_of_ble_eq_true rfl) dX4_readOperand_59 (fun H locs hP hD hS => ?_)
              have hP : va_P D vwCl (xX K r (upd f78 1604 t97) a79 g80 tx) H := hP
              have hD : va_D A (xX K r (upd f78 1604 t97) a79 g80 tx) := hD
              refine k_gen (P := fun z => va_P D vwCl (xX K r z a79 g80 tx) H ∧ va_D A (xX K r z a79 g80 tx) ∧ (xI z a79) ∧ (gOK K g80.2 tt) ∧ (xEk [12, 13, 14, 32, 38, 44, 49, 50, 832, 838, 844, 849, 850, 1603, 1606, 1632] f a g z a79 g80) ∧ (xQ z a79 N false T pl)) (upd f78 1604 t97) ⟨hP, hD, (xI_f hI (fI_st hI.1 1604 (kb_any _) (by decide) (by decide))), hG, (xEk_f hE (by decide)), (xQ_f hk0 (by decide) (by decide))⟩ (fun f_100 ef_100 hq => ?_)
              obtain ⟨hP, hD, hI, hG, hE, hk0⟩ := hq
              refine lv_iconst (v := 1) hx hb dX4_readOperand_62 (by decide) ?_
              exact kI_ret (v := 1) hx hb hr hlocks (by decide +kernel) hK hS dX4_readOperand_63 (f_100, a79, g80) hP hD ⟨(kb_w kc_1 (by decide) (by decide)), hI, hG, hE, hk0, ⟨ik82 + 1, nk82, (by show (f_100 1604).toInt = ((ik82 + 1 : Nat) : Int); rw [(show f_100 1604 = t97 from by rw [← ef_100]; rfl)]; exact hg99), (Nat.le_succ_of_le (Nat.le_trans (Nat.le_succ_of_le (Nat.le_refl i)) hlek82)), hlt95, Or.inl ⟨rfl, ⟨(by show (f_100 1605).toInt = ((nk82 : Nat) : Int); rw [((show f_100 1605 = f78 1605 from by rw [← ef_100]; rfl).trans ez86.symm)]; exact hzz86), h3k82.2⟩, (by omega), (pi_2a (hw3.2.symm.trans c7) hd hGk82 (hw89.2.symm.trans c93))⟩⟩⟩
            · refine lv_iconst (v := 0) hx hb dX4_readOperand_50 (by decide) ?_
              exact kI_ret (v := 0) hx hb hr hlocks (by decide +kernel) hK hS dX4_readOperand_51 (f78, a79, g80) hP hD ⟨(kb_w kc_0 (by decide) (by decide)), hI, hG, hE, hk0, ⟨ik82, 0, (by show (f78 1604).toInt = ((ik82 : Nat) : Int); rw [egv83.symm]; exact hg84), (Nat.le_trans (Nat.le_succ_of_le (Nat.le_refl i)) hlek82), hNk82, Or.inr ⟨rfl, (pi_2b (hw3.2.symm.trans c7) hd hGk82 (fun q => c93 (hw89.2.trans q)))⟩⟩⟩
        · refine k_top (z := 0) hvk82 ?_
          obtain ⟨gv101, egv101⟩ : ∃ z : Int32, z = f78 1604 := ⟨_, rfl⟩
          have hg102 : gv101.toInt = ((ik82 : Nat) : Int) := by rw [egv101]; exact hgk82
          have b103 : kb 0 gv101 400 := kb_pos hNk82 hN4 hg102
          refine lv_if_eq (tgt := 50) hx hb dX4_readOperand_37 (by decide) (fun c104 => ?_) (fun c104 => ?_)
          · refine lv_iconst (v := 0) hx hb dX4_readOperand_50 (by decide) ?_
            exact kI_ret (v := 0) hx hb hr hlocks (by decide +kernel) hK hS dX4_readOperand_51 (f78, a79, g80) hP hD ⟨(kb_w kc_0 (by decide) (by decide)), hI, hG, hE, hk0, ⟨ik82, 0, (by show (f78 1604).toInt = ((ik82 : Nat) : Int); rw [egv101.symm]; exact hg102), (Nat.le_trans (Nat.le_succ_of_le (Nat.le_refl i)) hlek82), hNk82, Or.inr ⟨rfl, (pi_2f (hw3.2.symm.trans c7) hd hGk82)⟩⟩⟩
          · exact kb_nsame c104 kc_0 kc_0
      · have h105 := (kc_nlt c64)
        have b106 : kb 8 dp 8 := kr_le2 h105 kc_8 bdp
        refine lv_iconst (v := 0) hx hb dX4_readOperand_18 (by decide) ?_
        exact kI_ret (v := 0) hx hb hr hlocks (by decide +kernel) hK hS dX4_readOperand_19 (f, a, g) hP hD ⟨(kb_w kc_0 (by decide) (by decide)), hI, hG, hE, hk0, ⟨i, 0, (by show (f 1604).toInt = ((i : Nat) : Int); rw [ecz4.symm]; exact hg0), (Nat.le_refl i), hp2, Or.inr ⟨rfl, (pi_2z (hw3.2.symm.trans c7) (by have w1 := hp4; have w2 := (b106).1; omega))⟩⟩⟩
  · refine lv_aload_n hx hb dX4_readOperand_0 rfl (lv_at hl 0 rfl) ?_
    refine kIG.callW (As := []) (rest := []) ⟨hx, hb, hml, hown, hg⟩ (y_inHand l r f a g tx tt hT hI hG   N (i) true T pl hk0 (by rw [ecz4.symm]; exact hg0) hp2) (cwV 0 hg (kgV wt3_238 wt4_0 wp1_12 wt1_7 wt4_1) rfl rfl rfl (by decide +kernel) ⟨by dsimp only [rmD]; omega, by dsimp only [rmD]; omega⟩) hV hK hP hD hS hA (50) 4 rfl rfl rfl hl.1 rfl (Nat.le_of_ble_eq_true rfl) dX4_readOperand_1 ⟨Nat.le_refl _, Nat.le_refl _⟩ (fun v108 u109 H locs hw107 hP hD hS => ?_)
    have hP : va_P D vwCl (xX K r f a g tx) H := hP
    have hD : va_D A (xX K r f a g tx) := hD
    have b110 : kb 0 v108 4000 := kb_eq hw107.2 (hk0.2.2.2.2.2.2 (i))
    refine lv_istore_n (lv' := [(2, .int v108), (0, .ref (r 50)), (1, .int dp)]) hx hb dX4_readOperand_4 rfl hl (by decide) rfl (fun ls hl => ?_)
    refine lv_iload_n hx hb dX4_readOperand_5 rfl (lv_at hl 0 rfl) ?_
    refine lv_sipush (v := 3091) hx hb dX4_readOperand_6 (by decide) ?_
    refine lv_icmp_ne (tgt := 64) hx hb dX4_readOperand_9 (by decide) (fun c111 => ?_) (fun c111 => ?_)
    · refine lv_aload_n hx hb dX4_readOperand_64 rfl (lv_at hl 1 rfl) ?_
      refine va_get (D := D) (ci := 4) (v := .int (f 1605)) (C := RX4) (T := TX4) (N := 7) hx hb hg inC4 hown hK hP 50 rfl rfl 5 (by decide) (hg _ wt2_70) (fun _ h9 => h9) rfl dX4_readOperand_65 ?_
      refine k_top (z := cz5) ecz5.symm ?_
      refine lv_bipush (v := 50) hx hb dX4_readOperand_68 (by decide) ?_
      refine lv_icmp_lt (tgt := 75) hx hb dX4_readOperand_70 (by decide) (fun c112 => ?_) (fun c112 => ?_)
      · have h113 := (kc_lt c112)
        have b114 : kb 0 cz5 49 := kr_lt1 h113 b2 kc_50 (by decide)
        refine lv_aload_n hx hb dX4_readOperand_75 rfl (lv_at hl 1 rfl) ?_
        refine lv_dup hx hb dX4_readOperand_76 rfl ?_
        refine va_get (D := D) (ci := 4) (v := .int (f 1605)) (C := RX4) (T := TX4) (N := 7) hx hb hg inC4 hown hK hP 50 rfl rfl 5 (by decide) (hg _ wt2_70) (fun _ h9 => h9) rfl dX4_readOperand_77 ?_
        refine k_top (z := cz5) ecz5.symm ?_
        refine lv_iconst (v := 1) hx hb dX4_readOperand_80 (by decide) ?_
        refine lv_iadd hx hb dX4_readOperand_81 ?_
        refine lv_topi (fun t115 et115 => ?_)
        have b116 : kb 1 t115 50 := kb_eq et115 (kb_add b114 kc_1 (by decide) (by decide))
        have qt115 : t115.toInt = cz5.toInt + 1 := by rw [et115]; exact kt_addc b114 kc_1 (by decide) (by decide)
        refine va_put (D := D) (ci := 4) (v := .int t115) (ty := .int) (C := RX4) (T := TX4) (N := 7) hx hb hg inC4 tyX4 tyX4_ok nmX4 hown hK hP hD hS 50 rfl rfl 5 (by decide) (hg _ wt2_70) (fun _ h9 => h9) rfl (by decide +kernel) rfl rfl (Nat.le_of_ble_eq_true rfl) dX4_readOperand_82 (fun H locs hP hD hS => ?_)
        have hP : va_P D vwCl (xX K r (upd f 1605 t115) a g tx) H := hP
        have hD : va_D A (xX K r (upd f 1605 t115) a g tx) := hD
        refine k_gen (P := fun z => va_P D vwCl (xX K r z a g tx) H ∧ va_D A (xX K r z a g tx) ∧ (xI z a) ∧ (gOK K g.2 tt) ∧ (xEk [12, 13, 14, 32, 38, 44, 49, 50, 832, 838, 844, 849, 850, 1603, 1606, 1632] f a g z a g) ∧ (xQ z a N true T pl)) (upd f 1605 t115) ⟨hP, hD, (xI_f hI (fI_st hI.1 1605 (kb_any _) (by decide) (by decide))), hG, (xEk_f hE (by decide)), (xQ_f hk0 (by decide) (by decide))⟩ (fun f_117 ef_117 hq => ?_)
        obtain ⟨hP, hD, hI, hG, hE, hk0⟩ := hq
        have hz118 : t115.toInt = ((n + 1 : Nat) : Int) := by have w1 := qt115; omega
        have hz119 : n + 1 ≤ 50 := by have w1 := (b114).2; omega
        refine lv_iload_n hx hb dX4_readOperand_85 rfl (lv_at hl 0 rfl) ?_
        refine lv_if_lt (tgt := 118) hx hb dX4_readOperand_86 (by decide) (fun c120 => ?_) (fun c120 => ?_)
        · have h121 := (kc_lt c120)
          exact kb_no (kr_lt1 h121 b110 kc_0 (H := (-1)) (by decide)) (by decide)
        · have h122 := (kc_nlt c120)
          refine lv_iload_n hx hb dX4_readOperand_89 rfl (lv_at hl 0 rfl) ?_
          refine lv_sipush (v := 1000) hx hb dX4_readOperand_90 (by decide) ?_
          refine lv_icmp_gt (tgt := 118) hx hb dX4_readOperand_93 (by decide) (fun c123 => ?_) (fun c123 => ?_)
          · have h124 := (kc_lt c123)
            have b125 : kb 1001 v108 4000 := kr_lt2 h124 kc_1000 b110 (by decide)
            refine lv_aload_n hx hb dX4_readOperand_118 rfl (lv_at hl 1 rfl) ?_
            refine va_get (D := D) (ci := 4) (v := .int (f_117 1606)) (C := RX4) (T := TX4) (N := 7) hx hb hg inC4 hown hK hP 50 rfl rfl 6 (by decide) (hg _ wt2_71) (fun _ h9 => h9) rfl dX4_readOperand_119 ?_
            refine k_top (z := 1) ((show f_117 1606 = f 1606 from by rw [← ef_117]; rfl).trans hp0.2.2.1) ?_
            refine lv_if_eq (tgt := 133) hx hb dX4_readOperand_122 (by decide) (fun c126 => ?_) (fun c126 => ?_)
            · exact kb_dj c126 kc_1 kc_0 (by decide)
            · refine lv_aload_n hx hb dX4_readOperand_125 rfl (lv_at hl 1 rfl) ?_
              refine lv_iload_n hx hb dX4_readOperand_126 rfl (lv_at hl 0 rfl) ?_
              refine kIG.callW (As := [.int v108]) (rest := []) ⟨hx, hb, hml, hown, hg⟩ (y_takeOrderWord l r f_117 a g tx tt hT hI hG v108 (kb_w b125 (by decide) (by decide)) N (i) true T pl hk0 (by rw [((show f_117 1604 = f 1604 from by rw [← ef_117]; rfl).trans ecz4.symm)]; exact hg0) hp2 hw107.2 (fun q => by have w1 := q.2; have w2 := (b125).1; omega)) (cwV 1 hg (kgV wt4_18 wt4_20 wp1_15 wt1_7 wt4_21) rfl rfl rfl (by decide +kernel) ⟨by dsimp only [rmD]; omega, by dsimp only [rmD]; omega⟩) hV hK hP hD hS hA (50) 4 rfl rfl rfl hl.1 rfl (Nat.le_of_ble_eq_true rfl) dX4_readOperand_127 ⟨Nat.le_refl _, Nat.le_refl _⟩ (fun v128 u129 H locs hw127 hP hD hS => ?_)
              obtain ⟨f130, a131, g132⟩ := u129
              have hP : va_P D vwCl (xX K r f130 a131 g132 tx) H := hP
              have hD : va_D A (xX K r f130 a131 g132 tx) := hD
              have hI : xI f130 a131 := hw127.2.1
              have hG : gOK K g132.2 tt := hw127.2.2.1
              have eE133 : xEk [12, 13, 14, 32, 38, 44, 49, 50, 832, 838, 844, 849, 850, 1603, 1606, 1632, 1605] f_117 a g f130 a131 g132 := hw127.2.2.2.1
              have hE : xEk [12, 13, 14, 32, 38, 44, 49, 50, 832, 838, 844, 849, 850, 1603, 1606, 1632] f a g f130 a131 g132 := xEk_tr hE (xEk_w (by decide) eE133)
              have hk0 : xQ f130 a131 N true T pl := hw127.2.2.2.2.1
              rcases hw127.2.2.2.2.2 with ⟨hnk134, hLk134, hMk134, hpk134, hlk134⟩ | ⟨hnk134, hLk134, hMk134, hPk134, hpk134, hlk134⟩ | ⟨hvk134, hLk134, hMk134, hPk134, hpk134, hlk134⟩ | ⟨hvk134, hLk134, hpk134⟩
              · obtain ⟨gv135, egv135⟩ : ∃ z : Int32, z = f130 1604 := ⟨_, rfl⟩
                have hg136 : gv135.toInt = ((i + 1 : Nat) : Int) := by rw [egv135]; exact hpk134
                have b137 : kb 0 gv135 400 := kb_pos hlk134 hN4 hg136
                refine lv_goto (tgt := 138) hx hb dX4_readOperand_130 (by decide) ?_
                refine lv_istore_n (lv' := [(3, .int v128), (2, .int v108), (0, .ref (r 50)), (1, .int dp)]) hx hb dX4_readOperand_138 rfl hl (by decide) rfl (fun ls hl => ?_)
                refine lv_iload_n hx hb dX4_readOperand_139 rfl (lv_at hl 0 rfl) ?_
                refine lv_iconst (v := (-1)) hx hb dX4_readOperand_140 (by decide) ?_
                refine lv_icmp_ne (tgt := 146) hx hb dX4_readOperand_141 (by decide) (fun c138 => ?_) (fun c138 => ?_)
                · refine lv_aload_n hx hb dX4_readOperand_146 rfl (lv_at hl 2 rfl) ?_
                  refine va_get (D := D) (ci := 4) (v := .ref (r 51)) (C := RX4) (T := TX4) (N := 7) hx hb hg inC4 hown hK hP 50 rfl rfl 0 (by decide) (hg _ wt2_64) (fun _ h9 => h9) rfl dX4_readOperand_147 ?_
                  refine lv_iconst (v := 1) hx hb dX4_readOperand_150 (by decide) ?_
                  refine lv_iload_n hx hb dX4_readOperand_151 rfl (lv_at hl 0 rfl) ?_
                  refine kIG.callW (As := [.int 1, .int v128]) (rest := []) ⟨hx, hb, hml, hown, hg⟩ (y_emit l r f130 a131 g132 tx tt hT hI hG 1 v128 (kb_w kc_1 (by decide) (by decide)) ) (cwV 2 hg (kgV wt4_14 wt4_15 wt4_16 wt1_8 wt4_17) rfl rfl rfl (by decide +kernel) ⟨by dsimp only [rmD]; omega, by dsimp only [rmD]; omega⟩) hV hK hP hD hS hA (51) 10 rfl rfl rfl hl.1 rfl (Nat.le_of_ble_eq_true rfl) dX4_readOperand_152 ⟨Nat.le_refl _, Nat.le_refl _⟩ (fun v140 u141 H locs hw139 hP hD hS => ?_)
                  obtain ⟨f142, a143, g144⟩ := u141
                  have hP : va_P D vwCl (xX K r f142 a143 g144 tx) H := hP
                  have hD : va_D A (xX K r f142 a143 g144 tx) := hD
                  have hI : xI f142 a143 := hw139.2.1
                  have hG : gOK K g144.2 tt := hw139.2.2.1
                  have eE145 : xEk [12, 13, 14, 32, 38, 44, 49, 50, 832, 838, 844, 849, 850, 1603, 1604, 1605, 1606, 1632] f130 a131 g132 f142 a143 g144 := hw139.2.2.2.1
                  have hE : xEk [12, 13, 14, 32, 38, 44, 49, 50, 832, 838, 844, 849, 850, 1603, 1606, 1632] f a g f142 a143 g144 := xEk_tr hE (xEk_w (by decide) eE145)
                  have hk0 : xQ f142 a143 N true T pl := xQ_c hk0 (eE145.1 1603 rfl) (eE145.1 1606 rfl) hw139.2.2.2.2
                  refine lv_pop hx hb dX4_readOperand_155 rfl ?_
                  refine lv_iconst (v := 1) hx hb dX4_readOperand_156 (by decide) ?_
                  exact kI_ret (v := 1) hx hb hr hlocks (by decide +kernel) hK hS dX4_readOperand_157 (f142, a143, g144) hP hD ⟨(kb_w kc_1 (by decide) (by decide)), hI, hG, hE, hk0, ⟨i + 1, n + 1, (by show (f142 1604).toInt = ((i + 1 : Nat) : Int); rw [((eE145.1 1604 rfl).trans egv135.symm)]; exact hg136), (Nat.le_succ_of_le (Nat.le_refl i)), hlk134, Or.inl ⟨rfl, ⟨(by show (f142 1605).toInt = ((n + 1 : Nat) : Int); rw [((eE145.1 1605 rfl).trans ((eE133.1 1605 rfl).trans (show f_117 1605 = t115 from by rw [← ef_117]; rfl)))]; exact hz118), hz119⟩, (by omega), (pi_2l (fun q => c111 (hw107.2.trans q)) hLk134 (by have w1 := (b114).2; omega) hMk134)⟩⟩⟩
                · exact absurd c138 hnk134
              · obtain ⟨gv146, egv146⟩ : ∃ z : Int32, z = f130 1604 := ⟨_, rfl⟩
                have hg147 : gv146.toInt = ((i + 1 + 1 : Nat) : Int) := by rw [egv146]; exact hpk134
                have b148 : kb 0 gv146 400 := kb_pos hlk134 hN4 hg147
                refine lv_goto (tgt := 138) hx hb dX4_readOperand_130 (by decide) ?_
                refine lv_istore_n (lv' := [(3, .int v128), (2, .int v108), (0, .ref (r 50)), (1, .int dp)]) hx hb dX4_readOperand_138 rfl hl (by decide) rfl (fun ls hl => ?_)
                refine lv_iload_n hx hb dX4_readOperand_139 rfl (lv_at hl 0 rfl) ?_
                refine lv_iconst (v := (-1)) hx hb dX4_readOperand_140 (by decide) ?_
                refine lv_icmp_ne (tgt := 146) hx hb dX4_readOperand_141 (by decide) (fun c149 => ?_) (fun c149 => ?_)
                · refine lv_aload_n hx hb dX4_readOperand_146 rfl (lv_at hl 2 rfl) ?_
                  refine va_get (D := D) (ci := 4) (v := .ref (r 51)) (C := RX4) (T := TX4) (N := 7) hx hb hg inC4 hown hK hP 50 rfl rfl 0 (by decide) (hg _ wt2_64) (fun _ h9 => h9) rfl dX4_readOperand_147 ?_
                  refine lv_iconst (v := 1) hx hb dX4_readOperand_150 (by decide) ?_
                  refine lv_iload_n hx hb dX4_readOperand_151 rfl (lv_at hl 0 rfl) ?_
                  refine kIG.callW (As := [.int 1, .int v128]) (rest := []) ⟨hx, hb, hml, hown, hg⟩ (y_emit l r f130 a131 g132 tx tt hT hI hG 1 v128 (kb_w kc_1 (by decide) (by decide)) ) (cwV 2 hg (kgV wt4_14 wt4_15 wt4_16 wt1_8 wt4_17) rfl rfl rfl (by decide +kernel) ⟨by dsimp only [rmD]; omega, by dsimp only [rmD]; omega⟩) hV hK hP hD hS hA (51) 10 rfl rfl rfl hl.1 rfl (Nat.le_of_ble_eq_true rfl) dX4_readOperand_152 ⟨Nat.le_refl _, Nat.le_refl _⟩ (fun v151 u152 H locs hw150 hP hD hS => ?_)
                  obtain ⟨f153, a154, g155⟩ := u152
                  have hP : va_P D vwCl (xX K r f153 a154 g155 tx) H := hP
                  have hD : va_D A (xX K r f153 a154 g155 tx) := hD
                  have hI : xI f153 a154 := hw150.2.1
                  have hG : gOK K g155.2 tt := hw150.2.2.1
                  have eE156 : xEk [12, 13, 14, 32, 38, 44, 49, 50, 832, 838, 844, 849, 850, 1603, 1604, 1605, 1606, 1632] f130 a131 g132 f153 a154 g155 := hw150.2.2.2.1
                  have hE : xEk [12, 13, 14, 32, 38, 44, 49, 50, 832, 838, 844, 849, 850, 1603, 1606, 1632] f a g f153 a154 g155 := xEk_tr hE (xEk_w (by decide) eE156)
                  have hk0 : xQ f153 a154 N true T pl := xQ_c hk0 (eE156.1 1603 rfl) (eE156.1 1606 rfl) hw150.2.2.2.2
                  refine lv_pop hx hb dX4_readOperand_155 rfl ?_
                  refine lv_iconst (v := 1) hx hb dX4_readOperand_156 (by decide) ?_
                  exact kI_ret (v := 1) hx hb hr hlocks (by decide +kernel) hK hS dX4_readOperand_157 (f153, a154, g155) hP hD ⟨(kb_w kc_1 (by decide) (by decide)), hI, hG, hE, hk0, ⟨i + 1 + 1, n + 1, (by show (f153 1604).toInt = ((i + 1 + 1 : Nat) : Int); rw [((eE156.1 1604 rfl).trans egv146.symm)]; exact hg147), (Nat.le_succ_of_le (Nat.le_succ_of_le (Nat.le_refl i))), hlk134, Or.inl ⟨rfl, ⟨(by show (f153 1605).toInt = ((n + 1 : Nat) : Int); rw [((eE156.1 1605 rfl).trans ((eE133.1 1605 rfl).trans (show f_117 1605 = t115 from by rw [← ef_117]; rfl)))]; exact hz118), hz119⟩, (by omega), (pi_2p (fun q => c111 (hw107.2.trans q)) hLk134 (by have w1 := (b114).2; omega) hMk134 hPk134)⟩⟩⟩
                · exact absurd c149 hnk134
              · refine k_top (z := -1) hvk134 ?_
                obtain ⟨gv157, egv157⟩ : ∃ z : Int32, z = f130 1604 := ⟨_, rfl⟩
                have hg158 : gv157.toInt = ((i + 1 : Nat) : Int) := by rw [egv157]; exact hpk134
                have b159 : kb 0 gv157 400 := kb_pos hlk134 hN4 hg158
                refine lv_goto (tgt := 138) hx hb dX4_readOperand_130 (by decide) ?_
                refine lv_istore_n (lv' := [(3, .int (-1)), (2, .int v108), (0, .ref (r 50)), (1, .int dp)]) hx hb dX4_readOperand_138 rfl hl (by decide) rfl (fun ls hl => ?_)
                refine lv_iload_n hx hb dX4_readOperand_139 rfl (lv_at hl 0 rfl) ?_
                refine lv_iconst (v := (-1)) hx hb dX4_readOperand_140 (by decide) ?_
                refine lv_icmp_ne (tgt := 146) hx hb dX4_readOperand_141 (by decide) (fun c160 => ?_) (fun c160 => ?_)
                · exact kb_nsame c160 kc_m1 kc_m1
                · refine lv_iconst (v := 0) hx hb dX4_readOperand_144 (by decide) ?_
                  exact kI_ret (v := 0) hx hb hr hlocks (by decide +kernel) hK hS dX4_readOperand_145 (f130, a131, g132) hP hD ⟨(kb_w kc_0 (by decide) (by decide)), hI, hG, hE, hk0, ⟨i + 1, 0, (by show (f130 1604).toInt = ((i + 1 : Nat) : Int); rw [egv157.symm]; exact hg158), (Nat.le_succ_of_le (Nat.le_refl i)), hlk134, Or.inr ⟨rfl, (pi_2q (fun q => c111 (hw107.2.trans q)) hLk134 (by have w1 := (b114).2; omega) hMk134 hPk134)⟩⟩⟩
              · refine k_top (z := -1) hvk134 ?_
                obtain ⟨gv161, egv161⟩ : ∃ z : Int32, z = f130 1604 := ⟨_, rfl⟩
                have hg162 : gv161.toInt = ((i : Nat) : Int) := by rw [egv161]; exact hpk134
                have b163 : kb 0 gv161 400 := kb_pos hp2 hN4 hg162
                refine lv_goto (tgt := 138) hx hb dX4_readOperand_130 (by decide) ?_
                refine lv_istore_n (lv' := [(3, .int (-1)), (2, .int v108), (0, .ref (r 50)), (1, .int dp)]) hx hb dX4_readOperand_138 rfl hl (by decide) rfl (fun ls hl => ?_)
                refine lv_iload_n hx hb dX4_readOperand_139 rfl (lv_at hl 0 rfl) ?_
                refine lv_iconst (v := (-1)) hx hb dX4_readOperand_140 (by decide) ?_
                refine lv_icmp_ne (tgt := 146) hx hb dX4_readOperand_141 (by decide) (fun c164 => ?_) (fun c164 => ?_)
                · exact kb_nsame c164 kc_m1 kc_m1
                · refine lv_iconst (v := 0) hx hb dX4_readOperand_144 (by decide) ?_
                  exact kI_ret (v := 0) hx hb hr hlocks (by decide +kernel) hK hS dX4_readOperand_145 (f130, a131, g132) hP hD ⟨(kb_w kc_0 (by decide) (by decide)), hI, hG, hE, hk0, ⟨i, 0, (by show (f130 1604).toInt = ((i : Nat) : Int); rw [egv161.symm]; exact hg162), (Nat.le_refl i), hp2, Or.inr ⟨rfl, (pi_2x (fun q => c111 (hw107.2.trans q)) hLk134)⟩⟩⟩
          · have h165 := (kc_nlt c123)
            have b166 : kb 0 v108 1000 := kr_le1 h165 b110 kc_1000
            refine lv_aload_n hx hb dX4_readOperand_96 rfl (lv_at hl 1 rfl) ?_
            refine lv_dup hx hb dX4_readOperand_97 rfl ?_
            have hlt167 : i < N := xQ_lt hk0 (fun q => by have w1 := (b166).2; have w2 := congrArg Int32.toInt ((hw107.2).trans q); have w3 := i4000; omega)
            have b168 : kb 0 cz4 399 := kb_pos1 hlt167 hN4 hg0
            refine va_get (D := D) (ci := 4) (v := .int (f_117 1604)) (C := RX4) (T := TX4) (N := 7) hx hb hg inC4 hown hK hP 50 rfl rfl 4 (by decide) (hg _ wt2_69) (fun _ h9 => h9) rfl dX4_readOperand_98 ?_
            refine k_top (z := cz4) ((show f_117 1604 = f 1604 from by rw [← ef_117]; rfl).trans ecz4.symm) ?_
            refine lv_iconst (v := 1) hx hb dX4_readOperand_101 (by decide) ?_
            refine lv_iadd hx hb dX4_readOperand_102 ?_
            refine lv_topi (fun t169 et169 => ?_)
            have b170 : kb 1 t169 400 := kb_eq et169 (kb_add b168 kc_1 (by decide) (by decide))
            have qt169 : t169.toInt = cz4.toInt + 1 := by rw [et169]; exact kt_addc b168 kc_1 (by decide) (by decide)
            have hg171 : t169.toInt = ((i + 1 : Nat) : Int) := by rw [qt169, hg0]; omega
            refine va_put (D := D) (ci := 4) (v := .int t169) (ty := .int) (C := RX4) (T := TX4) (N := 7) hx hb hg inC4 tyX4 tyX4_ok nmX4 hown hK hP hD hS 50 rfl rfl 4 (by decide) (hg _ wt2_69) (fun _ h9 => h9) rfl (by decide +kernel) rfl rfl (Nat.le_of_ble_eq_true rfl) dX4_readOperand_103 (fun H locs hP hD hS => ?_)
            have hP : va_P D vwCl (xX K r (upd f_117 1604 t169) a g tx) H := hP
            have hD : va_D A (xX K r (upd f_117 1604 t169) a g tx) := hD
            refine k_gen (P := fun z => va_P D vwCl (xX K r z a g tx) H ∧ va_D A (xX K r z a g tx) ∧ (xI z a) ∧ (gOK K g.2 tt) ∧ (xEk [12, 13, 14, 32, 38, 44, 49, 50, 832, 838, 844, 849, 850, 1603, 1606, 1632] f a g z a g) ∧ (xQ z a N true T pl)) (upd f_117 1604 t169) ⟨hP, hD, (xI_f hI (fI_st hI.1 1604 (kb_any _) (by decide) (by decide))), hG, (xEk_f hE (by decide)), (xQ_f hk0 (by decide) (by decide))⟩ (fun f_172 ef_172 hq => ?_)
            obtain ⟨hP, hD, hI, hG, hE, hk0⟩ := hq
            refine lv_aload_n hx hb dX4_readOperand_106 rfl (lv_at hl 1 rfl) ?_
            refine va_get (D := D) (ci := 4) (v := .ref (r 51)) (C := RX4) (T := TX4) (N := 7) hx hb hg inC4 hown hK hP 50 rfl rfl 0 (by decide) (hg _ wt2_64) (fun _ h9 => h9) rfl dX4_readOperand_107 ?_
            refine lv_iconst (v := 0) hx hb dX4_readOperand_110 (by decide) ?_
            refine lv_iload_n hx hb dX4_readOperand_111 rfl (lv_at hl 0 rfl) ?_
            refine kIG.callW (As := [.int 0, .int v108]) (rest := []) ⟨hx, hb, hml, hown, hg⟩ (y_emit l r f_172 a g tx tt hT hI hG 0 v108 (kb_w kc_0 (by decide) (by decide)) ) (cwV 2 hg (kgV wt4_14 wt4_15 wt4_16 wt1_8 wt4_17) rfl rfl rfl (by decide +kernel) ⟨by dsimp only [rmD]; omega, by dsimp only [rmD]; omega⟩) hV hK hP hD hS hA (51) 10 rfl rfl rfl hl.1 rfl (Nat.le_of_ble_eq_true rfl) dX4_readOperand_112 ⟨Nat.le_refl _, Nat.le_refl _⟩ (fun v174 u175 H locs hw173 hP hD hS => ?_)
            obtain ⟨f176, a177, g178⟩ := u175
            have hP : va_P D vwCl (xX K r f176 a177 g178 tx) H := hP
            have hD : va_D A (xX K r f176 a177 g178 tx) := hD
            have hI : xI f176 a177 := hw173.2.1
            have hG : gOK K g178.2 tt := hw173.2.2.1
            have eE179 : xEk [12, 13, 14, 32, 38, 44, 49, 50, 832, 838, 844, 849, 850, 1603, 1604, 1605, 1606, 1632] f_172 a g f176 a177 g178 := hw173.2.2.2.1
            have hE : xEk [12, 13, 14, 32, 38, 44, 49, 50, 832, 838, 844, 849, 850, 1603, 1606, 1632] f a g f176 a177 g178 := xEk_tr hE (xEk_w (by decide) eE179)
            have hk0 : xQ f176 a177 N true T pl := xQ_c hk0 (eE179.1 1603 rfl) (eE179.1 1606 rfl) hw173.2.2.2.2
            refine lv_pop hx hb dX4_readOperand_115 rfl ?_
            refine lv_iconst (v := 1) hx hb dX4_readOperand_116 (by decide) ?_
            exact kI_ret (v := 1) hx hb hr hlocks (by decide +kernel) hK hS dX4_readOperand_117 (f176, a177, g178) hP hD ⟨(kb_w kc_1 (by decide) (by decide)), hI, hG, hE, hk0, ⟨i + 1, n + 1, (by show (f176 1604).toInt = ((i + 1 : Nat) : Int); rw [((eE179.1 1604 rfl).trans (show f_172 1604 = t169 from by rw [← ef_172]; rfl))]; exact hg171), (Nat.le_succ_of_le (Nat.le_refl i)), hlt167, Or.inl ⟨rfl, ⟨(by show (f176 1605).toInt = ((n + 1 : Nat) : Int); rw [((eE179.1 1605 rfl).trans ((show f_172 1605 = f_117 1605 from by rw [← ef_172]; rfl).trans (show f_117 1605 = t115 from by rw [← ef_117]; rfl)))]; exact hz118), hz119⟩, (by omega), (pi_2l (fun q => c111 (hw107.2.trans q)) (lfx_n (ob := true) (kb_eq hw107.2.symm b166)).1 (by have w1 := (b114).2; omega) (lfx_n (ob := true) (kb_eq hw107.2.symm b166)).2)⟩⟩⟩
      · have h180 := (kc_nlt c112)
        have b181 : kb 50 cz5 50 := kr_le2 h180 kc_50 b2
        refine lv_iconst (v := 0) hx hb dX4_readOperand_73 (by decide) ?_
        exact kI_ret (v := 0) hx hb hr hlocks (by decide +kernel) hK hS dX4_readOperand_74 (f, a, g) hP hD ⟨(kb_w kc_0 (by decide) (by decide)), hI, hG, hE, hk0, ⟨i, 0, (by show (f 1604).toInt = ((i : Nat) : Int); rw [ecz4.symm]; exact hg0), (Nat.le_refl i), hp2, Or.inr ⟨rfl, (pi_2e (fun q => c111 (hw107.2.trans q)) (by have w1 := (b181).1; omega))⟩⟩⟩
    · have b182 : kb 3091 v108 3091 := kb_eq c111 kc_3091
      refine lv_iload_n hx hb dX4_readOperand_12 rfl (lv_at hl 2 rfl) ?_
      refine lv_bipush (v := 8) hx hb dX4_readOperand_13 (by decide) ?_
      refine lv_icmp_lt (tgt := 20) hx hb dX4_readOperand_15 (by decide) (fun c183 => ?_) (fun c183 => ?_)
      · have h184 := (kc_lt c183)
        have b185 : kb 0 dp 7 := kr_lt1 h184 bdp kc_8 (by decide)
        refine lv_aload_n hx hb dX4_readOperand_20 rfl (lv_at hl 1 rfl) ?_
        refine lv_dup hx hb dX4_readOperand_21 rfl ?_
        have hlt186 : i < N := xQ_lt hk0 (ne_4000 (hw107.2.symm.trans c111) (by decide +kernel))
        have b187 : kb 0 cz4 399 := kb_pos1 hlt186 hN4 hg0
        refine va_get (D := D) (ci := 4) (v := .int (f 1604)) (C := RX4) (T := TX4) (N := 7) hx hb hg inC4 hown hK hP 50 rfl rfl 4 (by decide) (hg _ wt2_69) (fun _ h9 => h9) rfl dX4_readOperand_22 ?_
        refine k_top (z := cz4) ecz4.symm ?_
        refine lv_iconst (v := 1) hx hb dX4_readOperand_25 (by decide) ?_
        refine lv_iadd hx hb dX4_readOperand_26 ?_
        refine lv_topi (fun t188 et188 => ?_)
        have b189 : kb 1 t188 400 := kb_eq et188 (kb_add b187 kc_1 (by decide) (by decide))
        have qt188 : t188.toInt = cz4.toInt + 1 := by rw [et188]; exact kt_addc b187 kc_1 (by decide) (by decide)
        have hg190 : t188.toInt = ((i + 1 : Nat) : Int) := by rw [qt188, hg0]; omega
        refine va_put (D := D) (ci := 4) (v := .int t188) (ty := .int) (C := RX4) (T := TX4) (N := 7) hx hb hg inC4 tyX4 tyX4_ok nmX4 hown hK hP hD hS 50 rfl rfl 4 (by decide) (hg _ wt2_69) (fun _ h9 => h9) rfl (by decide +kernel) rfl rfl (Nat.le_of_ble_eq_true rfl) dX4_readOperand_27 (fun H locs hP hD hS => ?_)
        have hP : va_P D vwCl (xX K r (upd f 1604 t188) a g tx) H := hP
        have hD : va_D A (xX K r (upd f 1604 t188) a g tx) := hD
        refine k_gen (P := fun z => va_P D vwCl (xX K r z a g tx) H ∧ va_D A (xX K r z a g tx) ∧ (xI z a) ∧ (gOK K g.2 tt) ∧ (xEk [12, 13, 14, 32, 38, 44, 49, 50, 832, 838, 844, 849, 850, 1603, 1606, 1632] f a g z a g) ∧ (xQ z a N true T pl)) (upd f 1604 t188) ⟨hP, hD, (xI_f hI (fI_st hI.1 1604 (kb_any _) (by decide) (by decide))), hG, (xEk_f hE (by decide)), (xQ_f hk0 (by decide) (by decide))⟩ (fun f_191 ef_191 hq => ?_)
        obtain ⟨hP, hD, hI, hG, hE, hk0⟩ := hq
        obtain ⟨ee, hd⟩ : ∃ ee, d = ee + 1 := ⟨d - 1, by have w1 := hp4; have w2 := (b185).2; omega⟩
        refine lv_aload_n hx hb dX4_readOperand_30 rfl (lv_at hl 1 rfl) ?_
        refine lv_iload_n hx hb dX4_readOperand_31 rfl (lv_at hl 2 rfl) ?_
        refine lv_iconst (v := 1) hx hb dX4_readOperand_32 (by decide) ?_
        refine lv_iadd hx hb dX4_readOperand_33 ?_
        refine lv_topi (fun t192 et192 => ?_)
        have b193 : kb 1 t192 8 := kb_eq et192 (kb_add b185 kc_1 (by decide) (by decide))
        have qt192 : t192.toInt = dp.toInt + 1 := by rw [et192]; exact kt_addc b185 kc_1 (by decide) (by decide)
        refine kIG.callW (As := [.int t192]) (rest := []) ⟨hx, hb, hml, hown, hg⟩ ((ih ee hd) l r f_191 a g tx tt hT hI hG t192 (kb_w b193 (by decide) (by decide)) N (i + 1) (n) true T pl hk0 (by rw [(show f_191 1604 = t188 from by rw [← ef_191]; rfl)]; exact hg190) hlt186 ⟨(by rw [((show f_191 1605 = f 1605 from by rw [← ef_191]; rfl).trans ecz5.symm)]; exact hn5), hl5⟩ (by have w1 := hp4; have w2 := qt192; omega)) (cwV 1 hg (kgV wt4_6 wt4_8 wp1_13 wt1_7 wt4_9) rfl rfl rfl (by decide +kernel) ⟨by dsimp only [rmD]; omega, by dsimp only [rmD]; omega⟩) hV hK hP hD hS hA (50) 4 rfl rfl rfl hl.1 rfl (Nat.le_of_ble_eq_true rfl) dX4_readOperand_34 ⟨Nat.le_refl _, Nat.le_refl _⟩ (fun v195 u196 H locs hw194 hP hD hS => ?_)
        obtain ⟨f197, a198, g199⟩ := u196
        have hP : va_P D vwCl (xX K r f197 a198 g199 tx) H := hP
        have hD : va_D A (xX K r f197 a198 g199 tx) := hD
        have hI : xI f197 a198 := hw194.2.1
        have hG : gOK K g199.2 tt := hw194.2.2.1
        have eE200 : xEk [12, 13, 14, 32, 38, 44, 49, 50, 832, 838, 844, 849, 850, 1603, 1606, 1632] f_191 a g f197 a198 g199 := hw194.2.2.2.1
        have hE : xEk [12, 13, 14, 32, 38, 44, 49, 50, 832, 838, 844, 849, 850, 1603, 1606, 1632] f a g f197 a198 g199 := xEk_tr hE eE200
        have hk0 : xQ f197 a198 N true T pl := hw194.2.2.2.2.1
        obtain ⟨ik201, nk201, hgk201, hlek201, hNk201, hck201⟩ := hw194.2.2.2.2.2
        rcases hck201 with ⟨hvk201, h3k201, hltk201, hGk201⟩ | ⟨hvk201, hGk201⟩
        · refine k_top (z := 1) hvk201 ?_
          obtain ⟨gv202, egv202⟩ : ∃ z : Int32, z = f197 1604 := ⟨_, rfl⟩
          have hg203 : gv202.toInt = ((ik201 : Nat) : Int) := by rw [egv202]; exact hgk201
          have b204 : kb 0 gv202 400 := kb_pos hNk201 hN4 hg203
          obtain ⟨z205, ez205⟩ : ∃ z : Int32, z = f197 1605 := ⟨_, rfl⟩
          have hzz205 : z205.toInt = ((nk201 : Nat) : Int) := by rw [ez205]; exact h3k201.1
          have b206 : kb 0 z205 50 := ⟨by omega, by have w1 := h3k201.2; omega⟩
          refine lv_if_eq (tgt := 50) hx hb dX4_readOperand_37 (by decide) (fun c207 => ?_) (fun c207 => ?_)
          · exact kb_dj c207 kc_1 kc_0 (by decide)
          · refine lv_aload_n hx hb dX4_readOperand_40 rfl (lv_at hl 1 rfl) ?_
            refine kIG.callW (As := []) (rest := []) ⟨hx, hb, hml, hown, hg⟩ (y_inHand l r f197 a198 g199 tx tt hT hI hG   N (ik201) true T pl hk0 (by rw [egv202.symm]; exact hg203) hNk201) (cwV 0 hg (kgV wt3_238 wt4_0 wp1_12 wt1_7 wt4_1) rfl rfl rfl (by decide +kernel) ⟨by dsimp only [rmD]; omega, by dsimp only [rmD]; omega⟩) hV hK hP hD hS hA (50) 4 rfl rfl rfl hl.1 rfl (Nat.le_of_ble_eq_true rfl) dX4_readOperand_41 ⟨Nat.le_refl _, Nat.le_refl _⟩ (fun v209 u210 H locs hw208 hP hD hS => ?_)
            have hP : va_P D vwCl (xX K r f197 a198 g199 tx) H := hP
            have hD : va_D A (xX K r f197 a198 g199 tx) := hD
            have b211 : kb 0 v209 4000 := kb_eq hw208.2 (hk0.2.2.2.2.2.2 (ik201))
            refine lv_sipush (v := 3093) hx hb dX4_readOperand_44 (by decide) ?_
            refine lv_icmp_eq (tgt := 52) hx hb dX4_readOperand_47 (by decide) (fun c212 => ?_) (fun c212 => ?_)
            · have b213 : kb 3093 v209 3093 := kb_eq c212 kc_3093
              refine lv_aload_n hx hb dX4_readOperand_52 rfl (lv_at hl 1 rfl) ?_
              refine lv_dup hx hb dX4_readOperand_53 rfl ?_
              have hlt214 : ik201 < N := xQ_lt hk0 (ne_4000 (hw208.2.symm.trans c212) (by decide +kernel))
              have b215 : kb 0 gv202 399 := kb_pos1 hlt214 hN4 hg203
              refine va_get (D := D) (ci := 4) (v := .int (f197 1604)) (C := RX4) (T := TX4) (N := 7) hx hb hg inC4 hown hK hP 50 rfl rfl 4 (by decide) (hg _ wt2_69) (fun _ h9 => h9) rfl dX4_readOperand_54 ?_
              refine k_top (z := gv202) egv202.symm ?_
              refine lv_iconst (v := 1) hx hb dX4_readOperand_57 (by decide) ?_
              refine lv_iadd hx hb dX4_readOperand_58 ?_
              refine lv_topi (fun t216 et216 => ?_)
              have b217 : kb 1 t216 400 := kb_eq et216 (kb_add b215 kc_1 (by decide) (by decide))
              have qt216 : t216.toInt = gv202.toInt + 1 := by rw [et216]; exact kt_addc b215 kc_1 (by decide) (by decide)
              have hg218 : t216.toInt = ((ik201 + 1 : Nat) : Int) := by rw [qt216, hg203]; omega
              refine va_put (D := D) (ci := 4) (v := .int t216) (ty := .int) (C := RX4) (T := TX4) (N := 7) hx hb hg inC4 tyX4 tyX4_ok nmX4 hown hK hP hD hS 50 rfl rfl 4 (by decide) (hg _ wt2_69) (fun _ h9 => h9) rfl (by decide +kernel) rfl rfl (Nat.le_of_ble_eq_true rfl) dX4_readOperand_59 (fun H locs hP hD hS => ?_)
              have hP : va_P D vwCl (xX K r (upd f197 1604 t216) a198 g199 tx) H := hP
              have hD : va_D A (xX K r (upd f197 1604 t216) a198 g199 tx) := hD
              refine k_gen (P := fun z => va_P D vwCl (xX K r z a198 g199 tx) H ∧ va_D A (xX K r z a198 g199 tx) ∧ (xI z a198) ∧ (gOK K g199.2 tt) ∧ (xEk [12, 13, 14, 32, 38, 44, 49, 50, 832, 838, 844, 849, 850, 1603, 1606, 1632] f a g z a198 g199) ∧ (xQ z a198 N true T pl)) (upd f197 1604 t216) ⟨hP, hD, (xI_f hI (fI_st hI.1 1604 (kb_any _) (by decide) (by decide))), hG, (xEk_f hE (by decide)), (xQ_f hk0 (by decide) (by decide))⟩ (fun f_219 ef_219 hq => ?_)
              obtain ⟨hP, hD, hI, hG, hE, hk0⟩ := hq
              refine lv_iconst (v := 1) hx hb dX4_readOperand_62 (by decide) ?_
              exact kI_ret (v := 1) hx hb hr hlocks (by decide +kernel) hK hS dX4_readOperand_63 (f_219, a198, g199) hP hD ⟨(kb_w kc_1 (by decide) (by decide)), hI, hG, hE, hk0, ⟨ik201 + 1, nk201, (by show (f_219 1604).toInt = ((ik201 + 1 : Nat) : Int); rw [(show f_219 1604 = t216 from by rw [← ef_219]; rfl)]; exact hg218), (Nat.le_succ_of_le (Nat.le_trans (Nat.le_succ_of_le (Nat.le_refl i)) hlek201)), hlt214, Or.inl ⟨rfl, ⟨(by show (f_219 1605).toInt = ((nk201 : Nat) : Int); rw [((show f_219 1605 = f197 1605 from by rw [← ef_219]; rfl).trans ez205.symm)]; exact hzz205), h3k201.2⟩, (by omega), (pi_2a (hw107.2.symm.trans c111) hd hGk201 (hw208.2.symm.trans c212))⟩⟩⟩
            · refine lv_iconst (v := 0) hx hb dX4_readOperand_50 (by decide) ?_
              exact kI_ret (v := 0) hx hb hr hlocks (by decide +kernel) hK hS dX4_readOperand_51 (f197, a198, g199) hP hD ⟨(kb_w kc_0 (by decide) (by decide)), hI, hG, hE, hk0, ⟨ik201, 0, (by show (f197 1604).toInt = ((ik201 : Nat) : Int); rw [egv202.symm]; exact hg203), (Nat.le_trans (Nat.le_succ_of_le (Nat.le_refl i)) hlek201), hNk201, Or.inr ⟨rfl, (pi_2b (hw107.2.symm.trans c111) hd hGk201 (fun q => c212 (hw208.2.trans q)))⟩⟩⟩
        · refine k_top (z := 0) hvk201 ?_
          obtain ⟨gv220, egv220⟩ : ∃ z : Int32, z = f197 1604 := ⟨_, rfl⟩
          have hg221 : gv220.toInt = ((ik201 : Nat) : Int) := by rw [egv220]; exact hgk201
          have b222 : kb 0 gv220 400 := kb_pos hNk201 hN4 hg221
          refine lv_if_eq (tgt := 50) hx hb dX4_readOperand_37 (by decide) (fun c223 => ?_) (fun c223 => ?_)
          · refine lv_iconst (v := 0) hx hb dX4_readOperand_50 (by decide) ?_
            exact kI_ret (v := 0) hx hb hr hlocks (by decide +kernel) hK hS dX4_readOperand_51 (f197, a198, g199) hP hD ⟨(kb_w kc_0 (by decide) (by decide)), hI, hG, hE, hk0, ⟨ik201, 0, (by show (f197 1604).toInt = ((ik201 : Nat) : Int); rw [egv220.symm]; exact hg221), (Nat.le_trans (Nat.le_succ_of_le (Nat.le_refl i)) hlek201), hNk201, Or.inr ⟨rfl, (pi_2f (hw107.2.symm.trans c111) hd hGk201)⟩⟩⟩
          · exact kb_nsame c223 kc_0 kc_0
      · have h224 := (kc_nlt c183)
        have b225 : kb 8 dp 8 := kr_le2 h224 kc_8 bdp
        refine lv_iconst (v := 0) hx hb dX4_readOperand_18 (by decide) ?_
        exact kI_ret (v := 0) hx hb hr hlocks (by decide +kernel) hK hS dX4_readOperand_19 (f, a, g) hP hD ⟨(kb_w kc_0 (by decide) (by decide)), hI, hG, hE, hk0, ⟨i, 0, (by show (f 1604).toInt = ((i : Nat) : Int); rw [ecz4.symm]; exact hg0), (Nat.le_refl i), hp2, Or.inr ⟨rfl, (pi_2z (hw107.2.symm.trans c111) (by have w1 := hp4; have w2 := (b225).1; omega))⟩⟩⟩
set_option maxHeartbeats 4000000 in
set_option maxRecDepth 100000 in
theorem y_readSum (d : Nat) (hop : eXOp d) (l : Launch) {D : va_G} {K : Nat → ClassId} (r : Nat → Nat) (f : Nat → Int32) (a : Nat → Nat → Int32) (g : xG) (tx tt : va_W) (hT : ∀ c ∈ tt, c ∈ tx) (hI : xI f a) (hG : gOK K g.2 tt) (dp : Int32) (bdp : kb 0 dp 8) (N i n : Nat) (ob : Bool) (T pl : Nat → Int32) (hp0 : xQ f a N ob T pl) (hp1 : (f 1604).toInt = (i : Int)) (hp2 : i ≤ N) (hp3 : (f 1605).toInt = (n : Int) ∧ n ≤ 50) (hp4 : dp.toInt + (d : Int) = 8) : kIG l yX4_readSum (Cond.code yX4_readSum cX4_readSum 6 (some .boolean) :: kG) (rmD (2 * d + 8) 0 0) D K [.ref (r 50), .int dp] (xX K r f a g tx) (fun v (u : xS) => kb 0 v 1 ∧ xI u.1 u.2.1 ∧ gOK K u.2.2.2 tt ∧ xEk [12, 13, 14, 32, 38, 44, 49, 50, 832, 838, 844, 849, 850, 1603, 1606, 1632] f a g u.1 u.2.1 u.2.2 ∧ xQ u.1 u.2.1 N ob T pl ∧ (∃ i2 n2 : Nat, (u.1 1604).toInt = (i2 : Int) ∧ i ≤ i2 ∧ i2 ≤ N ∧ ((v = 1 ∧ ((u.1 1605).toInt = (n2 : Int) ∧ n2 ≤ 50) ∧ i < i2 ∧ pG ob T d 0 i n (true, i2, n2)) ∨ (v = 0 ∧ pG ob T d 0 i n (false, i2, 0))))) (fun u => xX K r u.1 u.2.1 u.2.2 tx) 0 0 := by
  refine kIE.of (cc := cX4_readSum) (maxL := 6) (ret := (some .boolean)) (by decide) rfl (Nat.le_of_ble_eq_true rfl) ?_
  intro p e s m below meth c A hx hb hr hml hown hts hlocks hnm hK hP hD hS hA hV ls hl
  have hE : xEk [12, 13, 14, 32, 38, 44, 49, 50, 832, 838, 844, 849, 850, 1603, 1606, 1632] f a g f a g := xEk_rf
  have hg : ∀ w ∈ kG, w.before _ s = true := fun w h => hts w (List.mem_cons_of_mem _ h)
  have hown : s.vm.findClass RX4 = some m.cls := hown
  have hl : lv_has ls 6 [(0, .ref (r 50)), (1, .int dp)] := hl
  have hk0 := hp0
  have hN4 := hp0.2.1
  obtain ⟨cz4, ecz4⟩ : ∃ z : Int32, z = f 1604 := ⟨_, rfl⟩
  have hg0 : cz4.toInt = (i : Int) := by rw [ecz4]; exact hp1
  have b1 : kb 0 cz4 400 := kb_pos hp2 hN4 hg0
  obtain ⟨cz5, ecz5⟩ : ∃ z : Int32, z = f 1605 := ⟨_, rfl⟩
  have hn5 : cz5.toInt = (n : Int) := by rw [ecz5]; exact hp3.1
  have hl5 := hp3.2
  have b2 : kb 0 cz5 50 := ⟨by omega, by omega⟩
  refine lv_iconst (v := (-1)) hx hb dX4_readSum_0 (by decide) ?_
  refine lv_istore_n (lv' := [(2, .int (-1)), (0, .ref (r 50)), (1, .int dp)]) hx hb dX4_readSum_1 rfl hl (by decide) rfl (fun ls hl => ?_)
  refine lv_iconst (v := 0) hx hb dX4_readSum_2 (by decide) ?_
  refine lv_istore_n (lv' := [(3, .int 0), (2, .int (-1)), (0, .ref (r 50)), (1, .int dp)]) hx hb dX4_readSum_3 rfl hl (by decide) rfl (fun ls hl => ?_)
  have lp8 : ∀ (n9 : Nat) (i0 : Nat) (n0 : Nat) (ko : Nat) (F5 : Nat → Int32) (B6 : Nat → Nat → Int32) (G7 : xG) (H : Heap) (locs : List Loc) (ls : Array Slot) (y3 : Int32) (y4 : Int32), (400 < y3.toInt + (n9 : Int)) → (xI F5 B6) → (gOK K G7.2 tt) → (xEk [12, 13, 14, 32, 38, 44, 49, 50, 832, 838, 844, 849, 850, 1603, 1606, 1632] f a g F5 B6 G7) → (xQ F5 B6 N ob T pl) → (kb 0 y3 400) → (kb (-1) y4 12) → ((F5 1604).toInt = (i0 : Int)) → (i + 2 * ko ≤ i0 ∧ i0 ≤ N) → ((F5 1605).toInt = (n0 : Int) ∧ n0 ≤ 50) → (∀ r, pG ob T d 0 i0 n0 r → pG ob T d 0 i n r) → (y3.toInt = (ko : Int)) → va_P D vwCl (xX K r F5 B6 G7 tx) H → va_D A (xX K r F5 B6 G7 tx) → va_S A s.heap H locs → lv_has ls 6 [(3, .int y3), (2, .int y4), (0, .ref (r 50)), (1, .int dp)] → W p l e (rmD (2 * d + 8) 0 0) s m ([.ref (r 50), .int dp] : List Value).toArray below meth c H locs 0 0 (kQi D (tysK K) (fun v (u : xS) => kb 0 v 1 ∧ xI u.1 u.2.1 ∧ gOK K u.2.2.2 tt ∧ xEk [12, 13, 14, 32, 38, 44, 49, 50, 832, 838, 844, 849, 850, 1603, 1606, 1632] f a g u.1 u.2.1 u.2.2 ∧ xQ u.1 u.2.1 N ob T pl ∧ (∃ i2 n2 : Nat, (u.1 1604).toInt = (i2 : Int) ∧ i ≤ i2 ∧ i2 ≤ N ∧ ((v = 1 ∧ ((u.1 1605).toInt = (n2 : Int) ∧ n2 ≤ 50) ∧ i < i2 ∧ pG ob T d 0 i n (true, i2, n2)) ∨ (v = 0 ∧ pG ob T d 0 i n (false, i2, 0))))) (fun u => xX K r u.1 u.2.1 u.2.2 tx) A below ([.ref (r 50), .int dp] : List Value).toArray s 0 0) (F0 m 4 ls []) := by
    intro n9
    induction n9 with
    | zero =>
      intro i0 n0 ko F5 B6 G7  H locs ls y3 y4 hmlp8 hI hG hE hk0 b10 b11 hvlp8_0 hvlp8_1 hvlp8_2 hvlp8_3 hvlp8_4 hP hD hS hl
      exact (by have h1 := b10.2; have h2 := hmlp8; omega : False).elim
    | succ n9 ihlp8 =>
      intro i0 n0 ko F5 B6 G7  H locs ls y3 y4 hmlp8 hI hG hE hk0 b10 b11 hvlp8_0 hvlp8_1 hvlp8_2 hvlp8_3 hvlp8_4 hP hD hS hl
      obtain ⟨gv12, egv12⟩ : ∃ z : Int32, z = F5 1604 := ⟨_, rfl⟩
      have hg13 : gv12.toInt = ((i0 : Nat) : Int) := by rw [egv12]; exact hvlp8_0
      have b14 : kb 0 gv12 400 := kb_pos hvlp8_1.2 hN4 hg13
      obtain ⟨z15, ez15⟩ : ∃ z : Int32, z = F5 1605 := ⟨_, rfl⟩
      have hzz15 : z15.toInt = ((n0 : Nat) : Int) := by rw [ez15]; exact hvlp8_2.1
      have b16 : kb 0 z15 50 := ⟨by omega, by have w1 := hvlp8_2.2; omega⟩
      have xo := hvlp8_3
      refine lv_iload_n hx hb dX4_readSum_4 rfl (lv_at hl 0 rfl) ?_
      refine lv_sipush (v := 400) hx hb dX4_readSum_5 (by decide) ?_
      refine lv_icmp_ge (tgt := 173) hx hb dX4_readSum_8 (by decide) (fun c17 => ?_) (fun c17 => ?_)
      · exact (by have w1 := kc_le c17; have w2 := hvlp8_4; have w3 := hvlp8_1; have w4 : (400 : Int32).toInt = 400 := (by decide +kernel); omega : False).elim
      · have h18 := (kc_nle c17)
        have b19 : kb 0 y3 399 := kr_lt1 h18 b10 kc_400 (by decide)
        refine lv_iconst (v := (-1)) hx hb dX4_readSum_11 (by decide) ?_
        refine lv_istore (lv' := [(4, .int (-1)), (3, .int y3), (2, .int y4), (0, .ref (r 50)), (1, .int dp)]) hx hb dX4_readSum_12 hl (by decide) rfl (fun ls hl => ?_)
        refine lv_iconst (v := 0) hx hb dX4_readSum_14 (by decide) ?_
        refine lv_istore (lv' := [(5, .int 0), (4, .int (-1)), (3, .int y3), (2, .int y4), (0, .ref (r 50)), (1, .int dp)]) hx hb dX4_readSum_15 hl (by decide) rfl (fun ls hl => ?_)
        have lp25 : ∀ (n26 : Nat) (i1 : Nat) (n1 : Nat) (ki : Nat) (F22 : Nat → Int32) (B23 : Nat → Nat → Int32) (G24 : xG) (H : Heap) (locs : List Loc) (ls : Array Slot) (y20 : Int32) (y21 : Int32), (400 < y20.toInt + (n26 : Int)) → (xI F22 B23) → (gOK K G24.2 tt) → (xEk [12, 13, 14, 32, 38, 44, 49, 50, 832, 838, 844, 849, 850, 1603, 1606, 1632] f a g F22 B23 G24) → (xQ F22 B23 N ob T pl) → (kb 0 y20 400) → (kb (-1) y21 12) → ((F22 1604).toInt = (i1 : Int)) → (i0 + 2 * ki ≤ i1 ∧ i1 ≤ N) → ((F22 1605).toInt = (n1 : Int) ∧ n1 ≤ 50) → (∀ r, pG ob T d 1 i1 n1 r → pG ob T d 1 i0 n0 r) → (y20.toInt = (ki : Int)) → va_P D vwCl (xX K r F22 B23 G24 tx) H → va_D A (xX K r F22 B23 G24 tx) → va_S A s.heap H locs → lv_has ls 6 [(5, .int y20), (4, .int y21), (3, .int y3), (2, .int y4), (0, .ref (r 50)), (1, .int dp)] → W p l e (rmD (2 * d + 8) 0 0) s m ([.ref (r 50), .int dp] : List Value).toArray below meth c H locs 0 0 (kQi D (tysK K) (fun v (u : xS) => kb 0 v 1 ∧ xI u.1 u.2.1 ∧ gOK K u.2.2.2 tt ∧ xEk [12, 13, 14, 32, 38, 44, 49, 50, 832, 838, 844, 849, 850, 1603, 1606, 1632] f a g u.1 u.2.1 u.2.2 ∧ xQ u.1 u.2.1 N ob T pl ∧ (∃ i2 n2 : Nat, (u.1 1604).toInt = (i2 : Int) ∧ i ≤ i2 ∧ i2 ≤ N ∧ ((v = 1 ∧ ((u.1 1605).toInt = (n2 : Int) ∧ n2 ≤ 50) ∧ i < i2 ∧ pG ob T d 0 i n (true, i2, n2)) ∨ (v = 0 ∧ pG ob T d 0 i n (false, i2, 0))))) (fun u => xX K r u.1 u.2.1 u.2.2 tx) A below ([.ref (r 50), .int dp] : List Value).toArray s 0 0) (F0 m 17 ls []) := by
          intro n26
          induction n26 with
          | zero =>
            intro i1 n1 ki F22 B23 G24  H locs ls y20 y21 hmlp25 hI hG hE hk0 b27 b28 hvlp25_0 hvlp25_1 hvlp25_2 hvlp25_3 hvlp25_4 hP hD hS hl
            exact (by have h1 := b27.2; have h2 := hmlp25; omega : False).elim
          | succ n26 ihlp25 =>
            intro i1 n1 ki F22 B23 G24  H locs ls y20 y21 hmlp25 hI hG hE hk0 b27 b28 hvlp25_0 hvlp25_1 hvlp25_2 hvlp25_3 hvlp25_4 hP hD hS hl
            obtain ⟨gv29, egv29⟩ : ∃ z : Int32, z = F22 1604 := ⟨_, rfl⟩
            have hg30 : gv29.toInt = ((i1 : Nat) : Int) := by rw [egv29]; exact hvlp25_0
            have b31 : kb 0 gv29 400 := kb_pos hvlp25_1.2 hN4 hg30
            obtain ⟨z32, ez32⟩ : ∃ z : Int32, z = F22 1605 := ⟨_, rfl⟩
            have hzz32 : z32.toInt = ((n1 : Nat) : Int) := by rw [ez32]; exact hvlp25_2.1
            have b33 : kb 0 z32 50 := ⟨by omega, by have w1 := hvlp25_2.2; omega⟩
            have xi := hvlp25_3
            refine lv_iload hx hb dX4_readSum_17 (lv_at hl 0 rfl) ?_
            refine lv_sipush (v := 400) hx hb dX4_readSum_19 (by decide) ?_
            refine lv_icmp_ge (tgt := 114) hx hb dX4_readSum_22 (by decide) (fun c34 => ?_) (fun c34 => ?_)
            · exact (by have w1 := kc_le c34; have w2 := hvlp25_4; have w3 := hvlp25_1; have w4 : (400 : Int32).toInt = 400 := (by decide +kernel); omega : False).elim
            · have h35 := (kc_nle c34)
              have b36 : kb 0 y20 399 := kr_lt1 h35 b27 kc_400 (by decide)
              refine lv_aload_n hx hb dX4_readSum_25 rfl (lv_at hl 4 rfl) ?_
              refine lv_iload_n hx hb dX4_readSum_26 rfl (lv_at hl 5 rfl) ?_
              refine kIG.callW (As := [.int dp]) (rest := []) ⟨hx, hb, hml, hown, hg⟩ (hop l r F22 B23 G24 tx tt hT hI hG dp bdp N (i1) (n1) ob T pl hk0 (by rw [egv29.symm]; exact hg30) hvlp25_1.2 ⟨(by rw [ez32.symm]; exact hzz32), hvlp25_2.2⟩ hp4) (cwV 1 hg (kgV wt4_10 wt4_12 wp1_14 wt1_7 wt4_13) rfl rfl rfl (by decide +kernel) ⟨by dsimp only [rmD]; omega, by dsimp only [rmD]; omega⟩) hV hK hP hD hS hA (50) 4 rfl rfl rfl hl.1 rfl (Nat.le_of_ble_eq_true rfl) dX4_readSum_27 ⟨Nat.le_refl _, Nat.le_refl _⟩ (fun v38 u39 H locs hw37 hP hD hS => ?_)
              obtain ⟨f40, a41, g42⟩ := u39
              have hP : va_P D vwCl (xX K r f40 a41 g42 tx) H := hP
              have hD : va_D A (xX K r f40 a41 g42 tx) := hD
              have hI : xI f40 a41 := hw37.2.1
              have hG : gOK K g42.2 tt := hw37.2.2.1
              have eE43 : xEk [12, 13, 14, 32, 38, 44, 49, 50, 832, 838, 844, 849, 850, 1603, 1606, 1632] F22 B23 G24 f40 a41 g42 := hw37.2.2.2.1
              have hE : xEk [12, 13, 14, 32, 38, 44, 49, 50, 832, 838, 844, 849, 850, 1603, 1606, 1632] f a g f40 a41 g42 := xEk_tr hE eE43
              have hk0 : xQ f40 a41 N ob T pl := hw37.2.2.2.2.1
              obtain ⟨ik44, nk44, hgk44, hlek44, hNk44, hck44⟩ := hw37.2.2.2.2.2
              rcases hck44 with ⟨hvk44, h3k44, hltk44, hGk44⟩ | ⟨hvk44, hGk44⟩
              · refine k_top (z := 1) hvk44 ?_
                obtain ⟨gv45, egv45⟩ : ∃ z : Int32, z = f40 1604 := ⟨_, rfl⟩
                have hg46 : gv45.toInt = ((ik44 : Nat) : Int) := by rw [egv45]; exact hgk44
                have b47 : kb 0 gv45 400 := kb_pos hNk44 hN4 hg46
                obtain ⟨z48, ez48⟩ : ∃ z : Int32, z = f40 1605 := ⟨_, rfl⟩
                have hzz48 : z48.toInt = ((nk44 : Nat) : Int) := by rw [ez48]; exact h3k44.1
                have b49 : kb 0 z48 50 := ⟨by omega, by have w1 := h3k44.2; omega⟩
                refine lv_if_ne (tgt := 35) hx hb dX4_readSum_30 (by decide) (fun c50 => ?_) (fun c50 => ?_)
                · refine lv_aload_n hx hb dX4_readSum_35 rfl (lv_at hl 4 rfl) ?_
                  refine lv_iload hx hb dX4_readSum_36 (lv_at hl 1 rfl) ?_
                  refine kVG.callW (As := [.int y21]) (rest := []) ⟨hx, hb, hml, hown, hg⟩ (y_emitIfAny l r f40 a41 g42 tx tt hT hI hG y21 b28 ) (cwV 1 hg (kgV wt4_26 wt4_28 wp2_1 wt1_7 wt4_29) rfl rfl rfl (by decide +kernel) ⟨by dsimp only [rmD]; omega, by dsimp only [rmD]; omega⟩) hV hK hP hD hS hA (50) 4 rfl rfl rfl hl.1 rfl (Nat.le_of_ble_eq_true rfl) dX4_readSum_38 ⟨Nat.le_refl _, Nat.le_refl _⟩ (fun u53 H locs hw51 hP hD hS => ?_)
                  obtain ⟨f54, a55, g56⟩ := u53
                  have hP : va_P D vwCl (xX K r f54 a55 g56 tx) H := hP
                  have hD : va_D A (xX K r f54 a55 g56 tx) := hD
                  have hI : xI f54 a55 := hw51.1
                  have hG : gOK K g56.2 tt := hw51.2.1
                  have eE57 : xEk [12, 13, 14, 32, 38, 44, 49, 50, 832, 838, 844, 849, 850, 1603, 1604, 1605, 1606, 1632] f40 a41 g42 f54 a55 g56 := hw51.2.2.1
                  have hE : xEk [12, 13, 14, 32, 38, 44, 49, 50, 832, 838, 844, 849, 850, 1603, 1606, 1632] f a g f54 a55 g56 := xEk_tr hE (xEk_w (by decide) eE57)
                  have hk0 : xQ f54 a55 N ob T pl := xQ_c hk0 (eE57.1 1603 rfl) (eE57.1 1606 rfl) hw51.2.2.2
                  refine lv_aload_n hx hb dX4_readSum_41 rfl (lv_at hl 4 rfl) ?_
                  refine kIG.callW (As := []) (rest := []) ⟨hx, hb, hml, hown, hg⟩ (y_inHand l r f54 a55 g56 tx tt hT hI hG   N (ik44) ob T pl hk0 (by rw [((eE57.1 1604 rfl).trans egv45.symm)]; exact hg46) hNk44) (cwV 0 hg (kgV wt3_238 wt4_0 wp1_12 wt1_7 wt4_1) rfl rfl rfl (by decide +kernel) ⟨by dsimp only [rmD]; omega, by dsimp only [rmD]; omega⟩) hV hK hP hD hS hA (50) 4 rfl rfl rfl hl.1 rfl (Nat.le_of_ble_eq_true rfl) dX4_readSum_42 ⟨Nat.le_refl _, Nat.le_refl _⟩ (fun v59 u60 H locs hw58 hP hD hS => ?_)
                  have hP : va_P D vwCl (xX K r f54 a55 g56 tx) H := hP
                  have hD : va_D A (xX K r f54 a55 g56 tx) := hD
                  have b61 : kb 0 v59 4000 := kb_eq hw58.2 (hk0.2.2.2.2.2.2 (ik44))
                  refine lv_sipush (v := 3042) hx hb dX4_readSum_45 (by decide) ?_
                  refine lv_icmp_ne (tgt := 56) hx hb dX4_readSum_48 (by decide) (fun c62 => ?_) (fun c62 => ?_)
                  · refine lv_aload_n hx hb dX4_readSum_56 rfl (lv_at hl 4 rfl) ?_
                    refine kIG.callW (As := []) (rest := []) ⟨hx, hb, hml, hown, hg⟩ (y_inHand l r f54 a55 g56 tx tt hT hI hG   N (ik44) ob T pl hk0 (by rw [((eE57.1 1604 rfl).trans egv45.symm)]; exact hg46) hNk44) (cwV 0 hg (kgV wt3_238 wt4_0 wp1_12 wt1_7 wt4_1) rfl rfl rfl (by decide +kernel) ⟨by dsimp only [rmD]; omega, by dsimp only [rmD]; omega⟩) hV hK hP hD hS hA (50) 4 rfl rfl rfl hl.1 rfl (Nat.le_of_ble_eq_true rfl) dX4_readSum_57 ⟨Nat.le_refl _, Nat.le_refl _⟩ (fun v64 u65 H locs hw63 hP hD hS => ?_)
                    have hP : va_P D vwCl (xX K r f54 a55 g56 tx) H := hP
                    have hD : va_D A (xX K r f54 a55 g56 tx) := hD
                    have b66 : kb 0 v64 4000 := kb_eq hw63.2 (hk0.2.2.2.2.2.2 (ik44))
                    refine lv_sipush (v := 3047) hx hb dX4_readSum_60 (by decide) ?_
                    refine lv_icmp_ne (tgt := 71) hx hb dX4_readSum_63 (by decide) (fun c67 => ?_) (fun c67 => ?_)
                    · refine lv_aload_n hx hb dX4_readSum_71 rfl (lv_at hl 4 rfl) ?_
                      refine kIG.callW (As := []) (rest := []) ⟨hx, hb, hml, hown, hg⟩ (y_inHand l r f54 a55 g56 tx tt hT hI hG   N (ik44) ob T pl hk0 (by rw [((eE57.1 1604 rfl).trans egv45.symm)]; exact hg46) hNk44) (cwV 0 hg (kgV wt3_238 wt4_0 wp1_12 wt1_7 wt4_1) rfl rfl rfl (by decide +kernel) ⟨by dsimp only [rmD]; omega, by dsimp only [rmD]; omega⟩) hV hK hP hD hS hA (50) 4 rfl rfl rfl hl.1 rfl (Nat.le_of_ble_eq_true rfl) dX4_readSum_72 ⟨Nat.le_refl _, Nat.le_refl _⟩ (fun v69 u70 H locs hw68 hP hD hS => ?_)
                      have hP : va_P D vwCl (xX K r f54 a55 g56 tx) H := hP
                      have hD : va_D A (xX K r f54 a55 g56 tx) := hD
                      have b71 : kb 0 v69 4000 := kb_eq hw68.2 (hk0.2.2.2.2.2.2 (ik44))
                      refine lv_sipush (v := 3037) hx hb dX4_readSum_75 (by decide) ?_
                      refine lv_icmp_ne (tgt := 86) hx hb dX4_readSum_78 (by decide) (fun c72 => ?_) (fun c72 => ?_)
                      · refine lv_iconst (v := (-1)) hx hb dX4_readSum_86 (by decide) ?_
                        refine lv_istore (lv' := [(4, .int (-1)), (5, .int y20), (3, .int y3), (2, .int y4), (0, .ref (r 50)), (1, .int dp)]) hx hb dX4_readSum_87 hl (by decide) rfl (fun ls hl => ?_)
                        refine lv_iload hx hb dX4_readSum_89 (lv_at hl 0 rfl) ?_
                        refine lv_iconst (v := (-1)) hx hb dX4_readSum_91 (by decide) ?_
                        refine lv_icmp_ne (tgt := 98) hx hb dX4_readSum_92 (by decide) (fun c73 => ?_) (fun c73 => ?_)
                        · exact kb_nsame c73 kc_m1 kc_m1
                        · refine lv_goto (tgt := 114) hx hb dX4_readSum_95 (by decide) ?_
                          have hI74 : pG ob T d 1 i0 n0 (true, ik44, nk44) := xi _ (pi_1 hGk44 (pi_7n (fun q => q.elim (fun q => c62 (hw58.2.trans q)) (fun q => q.elim (fun q => c67 (hw63.2.trans q)) (fun q => c72 (hw68.2.trans q))))))
                          refine lv_aload_n hx hb dX4_readSum_114 rfl (lv_at hl 4 rfl) ?_
                          refine lv_iload_n hx hb dX4_readSum_115 rfl (lv_at hl 3 rfl) ?_
                          refine kVG.callW (As := [.int y4]) (rest := []) ⟨hx, hb, hml, hown, hg⟩ (y_emitIfAny l r f54 a55 g56 tx tt hT hI hG y4 b11 ) (cwV 1 hg (kgV wt4_26 wt4_28 wp2_1 wt1_7 wt4_29) rfl rfl rfl (by decide +kernel) ⟨by dsimp only [rmD]; omega, by dsimp only [rmD]; omega⟩) hV hK hP hD hS hA (50) 4 rfl rfl rfl hl.1 rfl (Nat.le_of_ble_eq_true rfl) dX4_readSum_116 ⟨Nat.le_refl _, Nat.le_refl _⟩ (fun u77 H locs hw75 hP hD hS => ?_)
                          obtain ⟨f78, a79, g80⟩ := u77
                          have hP : va_P D vwCl (xX K r f78 a79 g80 tx) H := hP
                          have hD : va_D A (xX K r f78 a79 g80 tx) := hD
                          have hI : xI f78 a79 := hw75.1
                          have hG : gOK K g80.2 tt := hw75.2.1
                          have eE81 : xEk [12, 13, 14, 32, 38, 44, 49, 50, 832, 838, 844, 849, 850, 1603, 1604, 1605, 1606, 1632] f54 a55 g56 f78 a79 g80 := hw75.2.2.1
                          have hE : xEk [12, 13, 14, 32, 38, 44, 49, 50, 832, 838, 844, 849, 850, 1603, 1606, 1632] f a g f78 a79 g80 := xEk_tr hE (xEk_w (by decide) eE81)
                          have hk0 : xQ f78 a79 N ob T pl := xQ_c hk0 (eE81.1 1603 rfl) (eE81.1 1606 rfl) hw75.2.2.2
                          refine lv_aload_n hx hb dX4_readSum_119 rfl (lv_at hl 4 rfl) ?_
                          refine kIG.callW (As := []) (rest := []) ⟨hx, hb, hml, hown, hg⟩ (y_inHand l r f78 a79 g80 tx tt hT hI hG   N (ik44) ob T pl hk0 (by rw [((eE81.1 1604 rfl).trans ((eE57.1 1604 rfl).trans egv45.symm))]; exact hg46) hNk44) (cwV 0 hg (kgV wt3_238 wt4_0 wp1_12 wt1_7 wt4_1) rfl rfl rfl (by decide +kernel) ⟨by dsimp only [rmD]; omega, by dsimp only [rmD]; omega⟩) hV hK hP hD hS hA (50) 4 rfl rfl rfl hl.1 rfl (Nat.le_of_ble_eq_true rfl) dX4_readSum_120 ⟨Nat.le_refl _, Nat.le_refl _⟩ (fun v83 u84 H locs hw82 hP hD hS => ?_)
                          have hP : va_P D vwCl (xX K r f78 a79 g80 tx) H := hP
                          have hD : va_D A (xX K r f78 a79 g80 tx) := hD
                          have b85 : kb 0 v83 4000 := kb_eq hw82.2 (hk0.2.2.2.2.2.2 (ik44))
                          refine lv_sipush (v := 3043) hx hb dX4_readSum_123 (by decide) ?_
                          refine lv_icmp_ne (tgt := 133) hx hb dX4_readSum_126 (by decide) (fun c86 => ?_) (fun c86 => ?_)
                          · refine lv_aload_n hx hb dX4_readSum_133 rfl (lv_at hl 4 rfl) ?_
                            refine kIG.callW (As := []) (rest := []) ⟨hx, hb, hml, hown, hg⟩ (y_inHand l r f78 a79 g80 tx tt hT hI hG   N (ik44) ob T pl hk0 (by rw [((eE81.1 1604 rfl).trans ((eE57.1 1604 rfl).trans egv45.symm))]; exact hg46) hNk44) (cwV 0 hg (kgV wt3_238 wt4_0 wp1_12 wt1_7 wt4_1) rfl rfl rfl (by decide +kernel) ⟨by dsimp only [rmD]; omega, by dsimp only [rmD]; omega⟩) hV hK hP hD hS hA (50) 4 rfl rfl rfl hl.1 rfl (Nat.le_of_ble_eq_true rfl) dX4_readSum_134 ⟨Nat.le_refl _, Nat.le_refl _⟩ (fun v88 u89 H locs hw87 hP hD hS => ?_)
                            have hP : va_P D vwCl (xX K r f78 a79 g80 tx) H := hP
                            have hD : va_D A (xX K r f78 a79 g80 tx) := hD
                            have b90 : kb 0 v88 4000 := kb_eq hw87.2 (hk0.2.2.2.2.2.2 (ik44))
                            refine lv_sipush (v := 3045) hx hb dX4_readSum_137 (by decide) ?_
                            refine lv_icmp_ne (tgt := 148) hx hb dX4_readSum_140 (by decide) (fun c91 => ?_) (fun c91 => ?_)
                            · refine lv_iconst (v := (-1)) hx hb dX4_readSum_148 (by decide) ?_
                              refine lv_istore_n (lv' := [(2, .int (-1)), (4, .int (-1)), (5, .int y20), (3, .int y3), (0, .ref (r 50)), (1, .int dp)]) hx hb dX4_readSum_149 rfl hl (by decide) rfl (fun ls hl => ?_)
                              refine lv_iload_n hx hb dX4_readSum_150 rfl (lv_at hl 0 rfl) ?_
                              refine lv_iconst (v := (-1)) hx hb dX4_readSum_151 (by decide) ?_
                              refine lv_icmp_ne (tgt := 157) hx hb dX4_readSum_152 (by decide) (fun c92 => ?_) (fun c92 => ?_)
                              · exact kb_nsame c92 kc_m1 kc_m1
                              · refine lv_iconst (v := 1) hx hb dX4_readSum_155 (by decide) ?_
                                exact kI_ret (v := 1) hx hb hr hlocks (by decide +kernel) hK hS dX4_readSum_156 (f78, a79, g80) hP hD ⟨(kb_w kc_1 (by decide) (by decide)), hI, hG, hE, hk0, ⟨ik44, nk44, (by show (f78 1604).toInt = ((ik44 : Nat) : Int); rw [((eE81.1 1604 rfl).trans ((eE57.1 1604 rfl).trans egv45.symm))]; exact hg46), (Nat.le_trans (Nat.le_trans (Nat.le_trans (Nat.le_trans (Nat.le_add_right _ _) hvlp8_1.1) (Nat.le_add_right _ _)) hvlp25_1.1) hlek44), hNk44, Or.inl ⟨rfl, ⟨(by show (f78 1605).toInt = ((nk44 : Nat) : Int); rw [((eE81.1 1605 rfl).trans ((eE57.1 1605 rfl).trans ez48.symm))]; exact hzz48), h3k44.2⟩, (by omega), xo _ (pi_0 hI74 (pi_6n (fun q => q.elim (fun q => c86 (hw82.2.trans q)) (fun q => c91 (hw87.2.trans q)))))⟩⟩⟩
                            · have b93 : kb 3045 v88 3045 := kb_eq c91 kc_3045
                              refine lv_bipush (v := 6) hx hb dX4_readSum_143 (by decide) ?_
                              refine lv_goto (tgt := 149) hx hb dX4_readSum_145 (by decide) ?_
                              refine lv_istore_n (lv' := [(2, .int 6), (4, .int (-1)), (5, .int y20), (3, .int y3), (0, .ref (r 50)), (1, .int dp)]) hx hb dX4_readSum_149 rfl hl (by decide) rfl (fun ls hl => ?_)
                              refine lv_iload_n hx hb dX4_readSum_150 rfl (lv_at hl 0 rfl) ?_
                              refine lv_iconst (v := (-1)) hx hb dX4_readSum_151 (by decide) ?_
                              refine lv_icmp_ne (tgt := 157) hx hb dX4_readSum_152 (by decide) (fun c94 => ?_) (fun c94 => ?_)
                              · refine lv_aload_n hx hb dX4_readSum_157 rfl (lv_at hl 4 rfl) ?_
                                refine lv_dup hx hb dX4_readSum_158 rfl ?_
                                have hlt95 : ik44 < N := xQ_lt hk0 (ne_4000 (hw87.2.symm.trans c91) (by decide +kernel))
                                have b96 : kb 0 gv45 399 := kb_pos1 hlt95 hN4 hg46
                                refine va_get (D := D) (ci := 4) (v := .int (f78 1604)) (C := RX4) (T := TX4) (N := 7) hx hb hg inC4 hown hK hP 50 rfl rfl 4 (by decide) (hg _ wt2_69) (fun _ h9 => h9) rfl dX4_readSum_159 ?_
                                refine k_top (z := gv45) ((eE81.1 1604 rfl).trans ((eE57.1 1604 rfl).trans egv45.symm)) ?_
                                refine lv_iconst (v := 1) hx hb dX4_readSum_162 (by decide) ?_
                                refine lv_iadd hx hb dX4_readSum_163 ?_
                                refine lv_topi (fun t97 et97 => ?_)
                                have b98 : kb 1 t97 400 := kb_eq et97 (kb_add b96 kc_1 (by decide) (by decide))
                                have qt97 : t97.toInt = gv45.toInt + 1 := by rw [et97]; exact kt_addc b96 kc_1 (by decide) (by decide)
                                have hg99 : t97.toInt = ((ik44 + 1 : Nat) : Int) := by rw [qt97, hg46]; omega
                                refine va_put (D := D) (ci := 4) (v := .int t97) (ty := .int) (C := RX4) (T := TX4) (N := 7) hx hb hg inC4 tyX4 tyX4_ok nmX4 hown hK hP hD hS 50 rfl rfl 4 (by decide) (hg _ wt2_69) (fun _ h9 => h9) rfl (by decide +kernel) rfl rfl (Nat.le_of_ble_eq_true rfl) dX4_readSum_164 (fun H locs hP hD hS => ?_)
                                have hP : va_P D vwCl (xX K r (upd f78 1604 t97) a79 g80 tx) H := hP
                                have hD : va_D A (xX K r (upd f78 1604 t97) a79 g80 tx) := hD
                                refine k_gen (P := fun z => va_P D vwCl (xX K r z a79 g80 tx) H ∧ va_D A (xX K r z a79 g80 tx) ∧ (xI z a79) ∧ (gOK K g80.2 tt) ∧ (xEk [12, 13, 14, 32, 38, 44, 49, 50, 832, 838, 844, 849, 850, 1603, 1606, 1632] f a g z a79 g80) ∧ (xQ z a79 N ob T pl)) (upd f78 1604 t97) ⟨hP, hD, (xI_f hI (fI_st hI.1 1604 (kb_any _) (by decide) (by decide))), hG, (xEk_f hE (by decide)), (xQ_f hk0 (by decide) (by decide))⟩ (fun f_100 ef_100 hq => ?_)
                                obtain ⟨hP, hD, hI, hG, hE, hk0⟩ := hq
                                obtain ⟨t101, et101⟩ : ∃ z : Int32, z = y3 + Int32.ofInt 1 := ⟨_, rfl⟩
                                have qt101 : t101.toInt = y3.toInt + 1 := by rw [et101]; exact km_inc b19 (by decide) (by decide)
                                have b102 : kb 1 t101 400 := kb_inc (k := 1) qt101 b19
                                refine lv_iinc (v := t101) (lv' := [(3, .int t101), (2, .int 6), (4, .int (-1)), (5, .int y20), (0, .ref (r 50)), (1, .int dp)]) hx hb dX4_readSum_167 hl (k := 3) rfl et101.symm (by decide) rfl (fun ls hl => ?_)
                                refine lv_goto (tgt := 4) hx hb dX4_readSum_170 (by decide) ?_
                                exact ihlp8 (ik44 + 1) (nk44) (ko + 1) f_100 a79 g80 _ _ _ t101 6 (km_up hmlp8 qt101) hI hG hE hk0 (kb_w b102 (by decide) (by decide)) (kb_w kc_6 (by decide) (by decide)) (by rw [(show f_100 1604 = t97 from by rw [← ef_100]; rfl)]; exact hg99) (⟨by have w1 := hvlp8_1.1; omega, hlt95⟩) (⟨(by rw [((show f_100 1605 = f78 1605 from by rw [← ef_100]; rfl).trans ((eE81.1 1605 rfl).trans ((eE57.1 1605 rfl).trans ez48.symm)))]; exact hzz48), h3k44.2⟩) (fun r h => xo r (pi_0 hI74 (pi_6y (Or.inr (hw87.2.symm.trans c91)) h))) (by have w1 := hvlp8_4; omega) hP hD hS (lv_sub hl [0, 1, 4, 5] rfl)
                              · exact kb_dj c94 kc_6 kc_m1 (by decide)
                          · have b103 : kb 3043 v83 3043 := kb_eq c86 kc_3043
                            refine lv_iconst (v := 5) hx hb dX4_readSum_129 (by decide) ?_
                            refine lv_goto (tgt := 149) hx hb dX4_readSum_130 (by decide) ?_
                            refine lv_istore_n (lv' := [(2, .int 5), (4, .int (-1)), (5, .int y20), (3, .int y3), (0, .ref (r 50)), (1, .int dp)]) hx hb dX4_readSum_149 rfl hl (by decide) rfl (fun ls hl => ?_)
                            refine lv_iload_n hx hb dX4_readSum_150 rfl (lv_at hl 0 rfl) ?_
                            refine lv_iconst (v := (-1)) hx hb dX4_readSum_151 (by decide) ?_
                            refine lv_icmp_ne (tgt := 157) hx hb dX4_readSum_152 (by decide) (fun c104 => ?_) (fun c104 => ?_)
                            · refine lv_aload_n hx hb dX4_readSum_157 rfl (lv_at hl 4 rfl) ?_
                              refine lv_dup hx hb dX4_readSum_158 rfl ?_
                              have hlt105 : ik44 < N := xQ_lt hk0 (ne_4000 (hw82.2.symm.trans c86) (by decide +kernel))
                              have b106 : kb 0 gv45 399 := kb_pos1 hlt105 hN4 hg46
                              refine va_get (D := D) (ci := 4) (v := .int (f78 1604)) (C := RX4) (T := TX4) (N := 7) hx hb hg inC4 hown hK hP 50 rfl rfl 4 (by decide) (hg _ wt2_69) (fun _ h9 => h9) rfl dX4_readSum_159 ?_
                              refine k_top (z := gv45) ((eE81.1 1604 rfl).trans ((eE57.1 1604 rfl).trans egv45.symm)) ?_
                              refine lv_iconst (v := 1) hx hb dX4_readSum_162 (by decide) ?_
                              refine lv_iadd hx hb dX4_readSum_163 ?_
                              refine lv_topi (fun t107 et107 => ?_)
                              have b108 : kb 1 t107 400 := kb_eq et107 (kb_add b106 kc_1 (by decide) (by decide))
                              have qt107 : t107.toInt = gv45.toInt + 1 := by rw [et107]; exact kt_addc b106 kc_1 (by decide) (by decide)
                              have hg109 : t107.toInt = ((ik44 + 1 : Nat) : Int) := by rw [qt107, hg46]; omega
                              refine va_put (D := D) (ci := 4) (v := .int t107) (ty := .int) (C := RX4) (T := TX4) (N := 7) hx hb hg inC4 tyX4 tyX4_ok nmX4 hown hK hP hD hS 50 rfl rfl 4 (by decide) (hg _ wt2_69) (fun _ h9 => h9) rfl (by decide +kernel) rfl rfl (Nat.le_of_ble_eq_true rfl) dX4_readSum_164 (fun H locs hP hD hS => ?_)
                              have hP : va_P D vwCl (xX K r (upd f78 1604 t107) a79 g80 tx) H := hP
                              have hD : va_D A (xX K r (upd f78 1604 t107) a79 g80 tx) := hD
                              refine k_gen (P := fun z => va_P D vwCl (xX K r z a79 g80 tx) H ∧ va_D A (xX K r z a79 g80 tx) ∧ (xI z a79) ∧ (gOK K g80.2 tt) ∧ (xEk [12, 13, 14, 32, 38, 44, 49, 50, 832, 838, 844, 849, 850, 1603, 1606, 1632] f a g z a79 g80) ∧ (xQ z a79 N ob T pl)) (upd f78 1604 t107) ⟨hP, hD, (xI_f hI (fI_st hI.1 1604 (kb_any _) (by decide) (by decide))), hG, (xEk_f hE (by decide)), (xQ_f hk0 (by decide) (by decide))⟩ (fun f_110 ef_110 hq => ?_)
                              obtain ⟨hP, hD, hI, hG, hE, hk0⟩ := hq
                              obtain ⟨t111, et111⟩ : ∃ z : Int32, z = y3 + Int32.ofInt 1 := ⟨_, rfl⟩
                              have qt111 : t111.toInt = y3.toInt + 1 := by rw [et111]; exact km_inc b19 (by decide) (by decide)
                              have b112 : kb 1 t111 400 := kb_inc (k := 1) qt111 b19
                              refine lv_iinc (v := t111) (lv' := [(3, .int t111), (2, .int 5), (4, .int (-1)), (5, .int y20), (0, .ref (r 50)), (1, .int dp)]) hx hb dX4_readSum_167 hl (k := 3) rfl et111.symm (by decide) rfl (fun ls hl => ?_)
                              refine lv_goto (tgt := 4) hx hb dX4_readSum_170 (by decide) ?_
                              exact ihlp8 (ik44 + 1) (nk44) (ko + 1) f_110 a79 g80 _ _ _ t111 5 (km_up hmlp8 qt111) hI hG hE hk0 (kb_w b112 (by decide) (by decide)) (kb_w kc_5 (by decide) (by decide)) (by rw [(show f_110 1604 = t107 from by rw [← ef_110]; rfl)]; exact hg109) (⟨by have w1 := hvlp8_1.1; omega, hlt105⟩) (⟨(by rw [((show f_110 1605 = f78 1605 from by rw [← ef_110]; rfl).trans ((eE81.1 1605 rfl).trans ((eE57.1 1605 rfl).trans ez48.symm)))]; exact hzz48), h3k44.2⟩) (fun r h => xo r (pi_0 hI74 (pi_6y (Or.inl (hw82.2.symm.trans c86)) h))) (by have w1 := hvlp8_4; omega) hP hD hS (lv_sub hl [0, 1, 4, 5] rfl)
                            · exact kb_dj c104 kc_5 kc_m1 (by decide)
                      · have b113 : kb 3037 v69 3037 := kb_eq c72 kc_3037
                        refine lv_bipush (v := 9) hx hb dX4_readSum_81 (by decide) ?_
                        refine lv_goto (tgt := 87) hx hb dX4_readSum_83 (by decide) ?_
                        refine lv_istore (lv' := [(4, .int 9), (5, .int y20), (3, .int y3), (2, .int y4), (0, .ref (r 50)), (1, .int dp)]) hx hb dX4_readSum_87 hl (by decide) rfl (fun ls hl => ?_)
                        refine lv_iload hx hb dX4_readSum_89 (lv_at hl 0 rfl) ?_
                        refine lv_iconst (v := (-1)) hx hb dX4_readSum_91 (by decide) ?_
                        refine lv_icmp_ne (tgt := 98) hx hb dX4_readSum_92 (by decide) (fun c114 => ?_) (fun c114 => ?_)
                        · refine lv_aload_n hx hb dX4_readSum_98 rfl (lv_at hl 4 rfl) ?_
                          refine lv_dup hx hb dX4_readSum_99 rfl ?_
                          have hlt115 : ik44 < N := xQ_lt hk0 (ne_4000 (hw68.2.symm.trans c72) (by decide +kernel))
                          have b116 : kb 0 gv45 399 := kb_pos1 hlt115 hN4 hg46
                          refine va_get (D := D) (ci := 4) (v := .int (f54 1604)) (C := RX4) (T := TX4) (N := 7) hx hb hg inC4 hown hK hP 50 rfl rfl 4 (by decide) (hg _ wt2_69) (fun _ h9 => h9) rfl dX4_readSum_100 ?_
                          refine k_top (z := gv45) ((eE57.1 1604 rfl).trans egv45.symm) ?_
                          refine lv_iconst (v := 1) hx hb dX4_readSum_103 (by decide) ?_
                          refine lv_iadd hx hb dX4_readSum_104 ?_
                          refine lv_topi (fun t117 et117 => ?_)
                          have b118 : kb 1 t117 400 := kb_eq et117 (kb_add b116 kc_1 (by decide) (by decide))
                          have qt117 : t117.toInt = gv45.toInt + 1 := by rw [et117]; exact kt_addc b116 kc_1 (by decide) (by decide)
                          have hg119 : t117.toInt = ((ik44 + 1 : Nat) : Int) := by rw [qt117, hg46]; omega
                          refine va_put (D := D) (ci := 4) (v := .int t117) (ty := .int) (C := RX4) (T := TX4) (N := 7) hx hb hg inC4 tyX4 tyX4_ok nmX4 hown hK hP hD hS 50 rfl rfl 4 (by decide) (hg _ wt2_69) (fun _ h9 => h9) rfl (by decide +kernel) rfl rfl (Nat.le_of_ble_eq_true rfl) dX4_readSum_105 (fun H locs hP hD hS => ?_)
                          have hP : va_P D vwCl (xX K r (upd f54 1604 t117) a55 g56 tx) H := hP
                          have hD : va_D A (xX K r (upd f54 1604 t117) a55 g56 tx) := hD
                          refine k_gen (P := fun z => va_P D vwCl (xX K r z a55 g56 tx) H ∧ va_D A (xX K r z a55 g56 tx) ∧ (xI z a55) ∧ (gOK K g56.2 tt) ∧ (xEk [12, 13, 14, 32, 38, 44, 49, 50, 832, 838, 844, 849, 850, 1603, 1606, 1632] f a g z a55 g56) ∧ (xQ z a55 N ob T pl)) (upd f54 1604 t117) ⟨hP, hD, (xI_f hI (fI_st hI.1 1604 (kb_any _) (by decide) (by decide))), hG, (xEk_f hE (by decide)), (xQ_f hk0 (by decide) (by decide))⟩ (fun f_120 ef_120 hq => ?_)
                          obtain ⟨hP, hD, hI, hG, hE, hk0⟩ := hq
                          obtain ⟨t121, et121⟩ : ∃ z : Int32, z = y20 + Int32.ofInt 1 := ⟨_, rfl⟩
                          have qt121 : t121.toInt = y20.toInt + 1 := by rw [et121]; exact km_inc b36 (by decide) (by decide)
                          have b122 : kb 1 t121 400 := kb_inc (k := 1) qt121 b36
                          refine lv_iinc (v := t121) (lv' := [(5, .int t121), (4, .int 9), (3, .int y3), (2, .int y4), (0, .ref (r 50)), (1, .int dp)]) hx hb dX4_readSum_108 hl (k := 1) rfl et121.symm (by decide) rfl (fun ls hl => ?_)
                          refine lv_goto (tgt := 17) hx hb dX4_readSum_111 (by decide) ?_
                          exact ihlp25 (ik44 + 1) (nk44) (ki + 1) f_120 a55 g56 _ _ _ t121 9 (km_up hmlp25 qt121) hI hG hE hk0 (kb_w b122 (by decide) (by decide)) (kb_w kc_9 (by decide) (by decide)) (by rw [(show f_120 1604 = t117 from by rw [← ef_120]; rfl)]; exact hg119) (⟨by have w1 := hvlp25_1.1; omega, hlt115⟩) (⟨(by rw [((show f_120 1605 = f54 1605 from by rw [← ef_120]; rfl).trans ((eE57.1 1605 rfl).trans ez48.symm))]; exact hzz48), h3k44.2⟩) (fun r h => xi r (pi_1 hGk44 (pi_7y (Or.inr (Or.inr (hw68.2.symm.trans c72))) h))) (by have w1 := hvlp25_4; omega) hP hD hS (lv_sub hl [0, 1, 2, 3, 4, 5] rfl)
                        · exact kb_dj c114 kc_9 kc_m1 (by decide)
                    · have b123 : kb 3047 v64 3047 := kb_eq c67 kc_3047
                      refine lv_bipush (v := 8) hx hb dX4_readSum_66 (by decide) ?_
                      refine lv_goto (tgt := 87) hx hb dX4_readSum_68 (by decide) ?_
                      refine lv_istore (lv' := [(4, .int 8), (5, .int y20), (3, .int y3), (2, .int y4), (0, .ref (r 50)), (1, .int dp)]) hx hb dX4_readSum_87 hl (by decide) rfl (fun ls hl => ?_)
                      refine lv_iload hx hb dX4_readSum_89 (lv_at hl 0 rfl) ?_
                      refine lv_iconst (v := (-1)) hx hb dX4_readSum_91 (by decide) ?_
                      refine lv_icmp_ne (tgt := 98) hx hb dX4_readSum_92 (by decide) (fun c124 => ?_) (fun c124 => ?_)
                      · refine lv_aload_n hx hb dX4_readSum_98 rfl (lv_at hl 4 rfl) ?_
                        refine lv_dup hx hb dX4_readSum_99 rfl ?_
                        have hlt125 : ik44 < N := xQ_lt hk0 (ne_4000 (hw63.2.symm.trans c67) (by decide +kernel))
                        have b126 : kb 0 gv45 399 := kb_pos1 hlt125 hN4 hg46
                        refine va_get (D := D) (ci := 4) (v := .int (f54 1604)) (C := RX4) (T := TX4) (N := 7) hx hb hg inC4 hown hK hP 50 rfl rfl 4 (by decide) (hg _ wt2_69) (fun _ h9 => h9) rfl dX4_readSum_100 ?_
                        refine k_top (z := gv45) ((eE57.1 1604 rfl).trans egv45.symm) ?_
                        refine lv_iconst (v := 1) hx hb dX4_readSum_103 (by decide) ?_
                        refine lv_iadd hx hb dX4_readSum_104 ?_
                        refine lv_topi (fun t127 et127 => ?_)
                        have b128 : kb 1 t127 400 := kb_eq et127 (kb_add b126 kc_1 (by decide) (by decide))
                        have qt127 : t127.toInt = gv45.toInt + 1 := by rw [et127]; exact kt_addc b126 kc_1 (by decide) (by decide)
                        have hg129 : t127.toInt = ((ik44 + 1 : Nat) : Int) := by rw [qt127, hg46]; omega
                        refine va_put (D := D) (ci := 4) (v := .int t127) (ty := .int) (C := RX4) (T := TX4) (N := 7) hx hb hg inC4 tyX4 tyX4_ok nmX4 hown hK hP hD hS 50 rfl rfl 4 (by decide) (hg _ wt2_69) (fun _ h9 => h9) rfl (by decide +kernel) rfl rfl (Nat.le_of_ble_eq_true rfl) dX4_readSum_105 (fun H locs hP hD hS => ?_)
                        have hP : va_P D vwCl (xX K r (upd f54 1604 t127) a55 g56 tx) H := hP
                        have hD : va_D A (xX K r (upd f54 1604 t127) a55 g56 tx) := hD
                        refine k_gen (P := fun z => va_P D vwCl (xX K r z a55 g56 tx) H ∧ va_D A (xX K r z a55 g56 tx) ∧ (xI z a55) ∧ (gOK K g56.2 tt) ∧ (xEk [12, 13, 14, 32, 38, 44, 49, 50, 832, 838, 844, 849, 850, 1603, 1606, 1632] f a g z a55 g56) ∧ (xQ z a55 N ob T pl)) (upd f54 1604 t127) ⟨hP, hD, (xI_f hI (fI_st hI.1 1604 (kb_any _) (by decide) (by decide))), hG, (xEk_f hE (by decide)), (xQ_f hk0 (by decide) (by decide))⟩ (fun f_130 ef_130 hq => ?_)
                        obtain ⟨hP, hD, hI, hG, hE, hk0⟩ := hq
                        obtain ⟨t131, et131⟩ : ∃ z : Int32, z = y20 + Int32.ofInt 1 := ⟨_, rfl⟩
                        have qt131 : t131.toInt = y20.toInt + 1 := by rw [et131]; exact km_inc b36 (by decide) (by decide)
                        have b132 : kb 1 t131 400 := kb_inc (k := 1) qt131 b36
                        refine lv_iinc (v := t131) (lv' := [(5, .int t131), (4, .int 8), (3, .int y3), (2, .int y4), (0, .ref (r 50)), (1, .int dp)]) hx hb dX4_readSum_108 hl (k := 1) rfl et131.symm (by decide) rfl (fun ls hl => ?_)
                        refine lv_goto (tgt := 17) hx hb dX4_readSum_111 (by decide) ?_
                        exact ihlp25 (ik44 + 1) (nk44) (ki + 1) f_130 a55 g56 _ _ _ t131 8 (km_up hmlp25 qt131) hI hG hE hk0 (kb_w b132 (by decide) (by decide)) (kb_w kc_8 (by decide) (by decide)) (by rw [(show f_130 1604 = t127 from by rw [← ef_130]; rfl)]; exact hg129) (⟨by have w1 := hvlp25_1.1; omega, hlt125⟩) (⟨(by rw [((show f_130 1605 = f54 1605 from by rw [← ef_130]; rfl).trans ((eE57.1 1605 rfl).trans ez48.symm))]; exact hzz48), h3k44.2⟩) (fun r h => xi r (pi_1 hGk44 (pi_7y (Or.inr (Or.inl (hw63.2.symm.trans c67))) h))) (by have w1 := hvlp25_4; omega) hP hD hS (lv_sub hl [0, 1, 2, 3, 4, 5] rfl)
                      · exact kb_dj c124 kc_8 kc_m1 (by decide)
                  · have b133 : kb 3042 v59 3042 := kb_eq c62 kc_3042
                    refine lv_bipush (v := 7) hx hb dX4_readSum_51 (by decide) ?_
                    refine lv_goto (tgt := 87) hx hb dX4_readSum_53 (by decide) ?_
                    refine lv_istore (lv' := [(4, .int 7), (5, .int y20), (3, .int y3), (2, .int y4), (0, .ref (r 50)), (1, .int dp)]) hx hb dX4_readSum_87 hl (by decide) rfl (fun ls hl => ?_)
                    refine lv_iload hx hb dX4_readSum_89 (lv_at hl 0 rfl) ?_
                    refine lv_iconst (v := (-1)) hx hb dX4_readSum_91 (by decide) ?_
                    refine lv_icmp_ne (tgt := 98) hx hb dX4_readSum_92 (by decide) (fun c134 => ?_) (fun c134 => ?_)
                    · refine lv_aload_n hx hb dX4_readSum_98 rfl (lv_at hl 4 rfl) ?_
                      refine lv_dup hx hb dX4_readSum_99 rfl ?_
                      have hlt135 : ik44 < N := xQ_lt hk0 (ne_4000 (hw58.2.symm.trans c62) (by decide +kernel))
                      have b136 : kb 0 gv45 399 := kb_pos1 hlt135 hN4 hg46
                      refine va_get (D := D) (ci := 4) (v := .int (f54 1604)) (C := RX4) (T := TX4) (N := 7) hx hb hg inC4 hown hK hP 50 rfl rfl 4 (by decide) (hg _ wt2_69) (fun _ h9 => h9) rfl dX4_readSum_100 ?_
                      refine k_top (z := gv45) ((eE57.1 1604 rfl).trans egv45.symm) ?_
                      refine lv_iconst (v := 1) hx hb dX4_readSum_103 (by decide) ?_
                      refine lv_iadd hx hb dX4_readSum_104 ?_
                      refine lv_topi (fun t137 et137 => ?_)
                      have b138 : kb 1 t137 400 := kb_eq et137 (kb_add b136 kc_1 (by decide) (by decide))
                      have qt137 : t137.toInt = gv45.toInt + 1 := by rw [et137]; exact kt_addc b136 kc_1 (by decide) (by decide)
                      have hg139 : t137.toInt = ((ik44 + 1 : Nat) : Int) := by rw [qt137, hg46]; omega
                      refine va_put (D := D) (ci := 4) (v := .int t137) (ty := .int) (C := RX4) (T := TX4) (N := 7) hx hb hg inC4 tyX4 tyX4_ok nmX4 hown hK hP hD hS 50 rfl rfl 4 (by decide) (hg _ wt2_69) (fun _ h9 => h9) rfl (by decide +kernel) rfl rfl (Nat.le_of_ble_eq_true rfl) dX4_readSum_105 (fun H locs hP hD hS => ?_)
                      have hP : va_P D vwCl (xX K r (upd f54 1604 t137) a55 g56 tx) H := hP
                      have hD : va_D A (xX K r (upd f54 1604 t137) a55 g56 tx) := hD
                      refine k_gen (P := fun z => va_P D vwCl (xX K r z a55 g56 tx) H ∧ va_D A (xX K r z a55 g56 tx) ∧ (xI z a55) ∧ (gOK K g56.2 tt) ∧ (xEk [12, 13, 14, 32, 38, 44, 49, 50, 832, 838, 844, 849, 850, 1603, 1606, 1632] f a g z a55 g56) ∧ (xQ z a55 N ob T pl)) (upd f54 1604 t137) ⟨hP, hD, (xI_f hI (fI_st hI.1 1604 (kb_any _) (by decide) (by decide))), hG, (xEk_f hE (by decide)), (xQ_f hk0 (by decide) (by decide))⟩ (fun f_140 ef_140 hq => ?_)
                      obtain ⟨hP, hD, hI, hG, hE, hk0⟩ := hq
                      obtain ⟨t141, et141⟩ : ∃ z : Int32, z = y20 + Int32.ofInt 1 := ⟨_, rfl⟩
                      have qt141 : t141.toInt = y20.toInt + 1 := by rw [et141]; exact km_inc b36 (by decide) (by decide)
                      have b142 : kb 1 t141 400 := kb_inc (k := 1) qt141 b36
                      refine lv_iinc (v := t141) (lv' := [(5, .int t141), (4, .int 7), (3, .int y3), (2, .int y4), (0, .ref (r 50)), (1, .int dp)]) hx hb dX4_readSum_108 hl (k := 1) rfl et141.symm (by decide) rfl (fun ls hl => ?_)
                      refine lv_goto (tgt := 17) hx hb dX4_readSum_111 (by decide) ?_
                      exact ihlp25 (ik44 + 1) (nk44) (ki + 1) f_140 a55 g56 _ _ _ t141 7 (km_up hmlp25 qt141) hI hG hE hk0 (kb_w b142 (by decide) (by decide)) (kb_w kc_7 (by decide) (by decide)) (by rw [(show f_140 1604 = t137 from by rw [← ef_140]; rfl)]; exact hg139) (⟨by have w1 := hvlp25_1.1; omega, hlt135⟩) (⟨(by rw [((show f_140 1605 = f54 1605 from by rw [← ef_140]; rfl).trans ((eE57.1 1605 rfl).trans ez48.symm))]; exact hzz48), h3k44.2⟩) (fun r h => xi r (pi_1 hGk44 (pi_7y (Or.inl (hw58.2.symm.trans c62)) h))) (by have w1 := hvlp25_4; omega) hP hD hS (lv_sub hl [0, 1, 2, 3, 4, 5] rfl)
                    · exact kb_dj c134 kc_7 kc_m1 (by decide)
                · exact kb_dj c50 kc_1 kc_0 (by decide)
              · refine k_top (z := 0) hvk44 ?_
                obtain ⟨gv143, egv143⟩ : ∃ z : Int32, z = f40 1604 := ⟨_, rfl⟩
                have hg144 : gv143.toInt = ((ik44 : Nat) : Int) := by rw [egv143]; exact hgk44
                have b145 : kb 0 gv143 400 := kb_pos hNk44 hN4 hg144
                refine lv_if_ne (tgt := 35) hx hb dX4_readSum_30 (by decide) (fun c146 => ?_) (fun c146 => ?_)
                · exact kb_nsame c146 kc_0 kc_0
                · refine lv_iconst (v := 0) hx hb dX4_readSum_33 (by decide) ?_
                  exact kI_ret (v := 0) hx hb hr hlocks (by decide +kernel) hK hS dX4_readSum_34 (f40, a41, g42) hP hD ⟨(kb_w kc_0 (by decide) (by decide)), hI, hG, hE, hk0, ⟨ik44, 0, (by show (f40 1604).toInt = ((ik44 : Nat) : Int); rw [egv143.symm]; exact hg144), (Nat.le_trans (Nat.le_trans (Nat.le_trans (Nat.le_trans (Nat.le_add_right _ _) hvlp8_1.1) (Nat.le_add_right _ _)) hvlp25_1.1) hlek44), hNk44, Or.inr ⟨rfl, xo _ (pi_0f (xi _ (pi_1f hGk44)))⟩⟩⟩
        exact lp25 (401) (i0) (n0) 0 F5 B6 G7 _ _ _ 0 (-1) (by have h1 := (kc_0); unfold kb at h1; omega) hI hG hE hk0 (kb_w kc_0 (by decide) (by decide)) (kb_w kc_m1 (by decide) (by decide)) (by rw [egv12.symm]; exact hg13) (⟨by omega, hvlp8_1.2⟩) (⟨(by rw [ez15.symm]; exact hzz15), hvlp8_2.2⟩) (fun r h => h) (by decide +kernel) hP hD hS (lv_sub hl [0, 1, 2, 3, 4, 5] rfl)
  exact lp8 (401) (i) (n) 0 f a g _ _ _ 0 (-1) (by have h1 := (kc_0); unfold kb at h1; omega) hI hG hE hk0 (kb_w kc_0 (by decide) (by decide)) (kb_w kc_m1 (by decide) (by decide)) (by rw [ecz4.symm]; exact hg0) (⟨by omega, hp2⟩) (⟨(by rw [ecz5.symm]; exact hn5), hl5⟩) (fun r h => h) (by decide +kernel) hP hD hS (lv_sub hl [0, 1, 2, 3] rfl)
set_option maxHeartbeats 4000000 in
set_option maxRecDepth 100000 in
theorem y_readTest (d : Nat) (hpl : eXPlain d) (l : Launch) {D : va_G} {K : Nat → ClassId} (r : Nat → Nat) (f : Nat → Int32) (a : Nat → Nat → Int32) (g : xG) (tx tt : va_W) (hT : ∀ c ∈ tt, c ∈ tx) (hI : xI f a) (hG : gOK K g.2 tt) (dp : Int32) (bdp : kb 0 dp 8) (N i n : Nat) (ob : Bool) (T pl : Nat → Int32) (hp0 : xQ f a N ob T pl) (hp1 : (f 1604).toInt = (i : Int)) (hp2 : i ≤ N) (hp3 : (f 1605).toInt = (n : Int) ∧ n ≤ 50) (hp4 : dp.toInt + (d : Int) = 8) : kIG l yX4_readTest (Cond.code yX4_readTest cX4_readTest 6 (some .boolean) :: kG) (rmD (2 * d + 10) 0 0) D K [.ref (r 50), .int dp] (xX K r f a g tx) (fun v (u : xS) => kb 0 v 1 ∧ xI u.1 u.2.1 ∧ gOK K u.2.2.2 tt ∧ xEk [12, 13, 14, 32, 38, 44, 49, 50, 832, 838, 844, 849, 850, 1603, 1606, 1632] f a g u.1 u.2.1 u.2.2 ∧ xQ u.1 u.2.1 N ob T pl ∧ (∃ i2 n2 : Nat, (u.1 1604).toInt = (i2 : Int) ∧ i ≤ i2 ∧ i2 ≤ N ∧ ((v = 1 ∧ ((u.1 1605).toInt = (n2 : Int) ∧ n2 ≤ 50) ∧ i < i2 ∧ pG ob T d 3 i n (true, i2, n2)) ∨ (v = 0 ∧ pG ob T d 3 i n (false, i2, 0))))) (fun u => xX K r u.1 u.2.1 u.2.2 tx) 0 0 := by
  refine kIE.of (cc := cX4_readTest) (maxL := 6) (ret := (some .boolean)) (by decide) rfl (Nat.le_of_ble_eq_true rfl) ?_
  intro p e s m below meth c A hx hb hr hml hown hts hlocks hnm hK hP hD hS hA hV ls hl
  have hE : xEk [12, 13, 14, 32, 38, 44, 49, 50, 832, 838, 844, 849, 850, 1603, 1606, 1632] f a g f a g := xEk_rf
  have hg : ∀ w ∈ kG, w.before _ s = true := fun w h => hts w (List.mem_cons_of_mem _ h)
  have hown : s.vm.findClass RX4 = some m.cls := hown
  have hl : lv_has ls 6 [(0, .ref (r 50)), (1, .int dp)] := hl
  have hk0 := hp0
  have hN4 := hp0.2.1
  obtain ⟨cz4, ecz4⟩ : ∃ z : Int32, z = f 1604 := ⟨_, rfl⟩
  have hg0 : cz4.toInt = (i : Int) := by rw [ecz4]; exact hp1
  have b1 : kb 0 cz4 400 := kb_pos hp2 hN4 hg0
  obtain ⟨cz5, ecz5⟩ : ∃ z : Int32, z = f 1605 := ⟨_, rfl⟩
  have hn5 : cz5.toInt = (n : Int) := by rw [ecz5]; exact hp3.1
  have hl5 := hp3.2
  have b2 : kb 0 cz5 50 := ⟨by omega, by omega⟩
  refine lv_iconst (v := (-1)) hx hb dX4_readTest_0 (by decide) ?_
  refine lv_istore_n (lv' := [(2, .int (-1)), (0, .ref (r 50)), (1, .int dp)]) hx hb dX4_readTest_1 rfl hl (by decide) rfl (fun ls hl => ?_)
  refine lv_iconst (v := 0) hx hb dX4_readTest_2 (by decide) ?_
  refine lv_istore_n (lv' := [(3, .int 0), (2, .int (-1)), (0, .ref (r 50)), (1, .int dp)]) hx hb dX4_readTest_3 rfl hl (by decide) rfl (fun ls hl => ?_)
  have lp8 : ∀ (n9 : Nat) (i0 : Nat) (n0 : Nat) (ko : Nat) (F5 : Nat → Int32) (B6 : Nat → Nat → Int32) (G7 : xG) (H : Heap) (locs : List Loc) (ls : Array Slot) (y3 : Int32) (y4 : Int32), (400 < y3.toInt + (n9 : Int)) → (xI F5 B6) → (gOK K G7.2 tt) → (xEk [12, 13, 14, 32, 38, 44, 49, 50, 832, 838, 844, 849, 850, 1603, 1606, 1632] f a g F5 B6 G7) → (xQ F5 B6 N ob T pl) → (kb 0 y3 400) → ((F5 1604).toInt = (i0 : Int)) → (i + 2 * ko ≤ i0 ∧ i0 ≤ N) → ((F5 1605).toInt = (n0 : Int) ∧ n0 ≤ 50) → (∀ r, pG ob T d 3 i0 n0 r → pG ob T d 3 i n r) → (y3.toInt = (ko : Int)) → va_P D vwCl (xX K r F5 B6 G7 tx) H → va_D A (xX K r F5 B6 G7 tx) → va_S A s.heap H locs → lv_has ls 6 [(3, .int y3), (2, .int y4), (0, .ref (r 50)), (1, .int dp)] → W p l e (rmD (2 * d + 10) 0 0) s m ([.ref (r 50), .int dp] : List Value).toArray below meth c H locs 0 0 (kQi D (tysK K) (fun v (u : xS) => kb 0 v 1 ∧ xI u.1 u.2.1 ∧ gOK K u.2.2.2 tt ∧ xEk [12, 13, 14, 32, 38, 44, 49, 50, 832, 838, 844, 849, 850, 1603, 1606, 1632] f a g u.1 u.2.1 u.2.2 ∧ xQ u.1 u.2.1 N ob T pl ∧ (∃ i2 n2 : Nat, (u.1 1604).toInt = (i2 : Int) ∧ i ≤ i2 ∧ i2 ≤ N ∧ ((v = 1 ∧ ((u.1 1605).toInt = (n2 : Int) ∧ n2 ≤ 50) ∧ i < i2 ∧ pG ob T d 3 i n (true, i2, n2)) ∨ (v = 0 ∧ pG ob T d 3 i n (false, i2, 0))))) (fun u => xX K r u.1 u.2.1 u.2.2 tx) A below ([.ref (r 50), .int dp] : List Value).toArray s 0 0) (F0 m 4 ls []) := by
    intro n9
    induction n9 with
    | zero =>
      intro i0 n0 ko F5 B6 G7  H locs ls y3 y4 hmlp8 hI hG hE hk0 b10 hvlp8_0 hvlp8_1 hvlp8_2 hvlp8_3 hvlp8_4 hP hD hS hl
      exact (by have h1 := b10.2; have h2 := hmlp8; omega : False).elim
    | succ n9 ihlp8 =>
      intro i0 n0 ko F5 B6 G7  H locs ls y3 y4 hmlp8 hI hG hE hk0 b10 hvlp8_0 hvlp8_1 hvlp8_2 hvlp8_3 hvlp8_4 hP hD hS hl
      obtain ⟨gv11, egv11⟩ : ∃ z : Int32, z = F5 1604 := ⟨_, rfl⟩
      have hg12 : gv11.toInt = ((i0 : Nat) : Int) := by rw [egv11]; exact hvlp8_0
      have b13 : kb 0 gv11 400 := kb_pos hvlp8_1.2 hN4 hg12
      obtain ⟨z14, ez14⟩ : ∃ z : Int32, z = F5 1605 := ⟨_, rfl⟩
      have hzz14 : z14.toInt = ((n0 : Nat) : Int) := by rw [ez14]; exact hvlp8_2.1
      have b15 : kb 0 z14 50 := ⟨by omega, by have w1 := hvlp8_2.2; omega⟩
      have xo := hvlp8_3
      refine lv_iload_n hx hb dX4_readTest_4 rfl (lv_at hl 0 rfl) ?_
      refine lv_sipush (v := 400) hx hb dX4_readTest_5 (by decide) ?_
      refine lv_icmp_ge (tgt := 130) hx hb dX4_readTest_8 (by decide) (fun c16 => ?_) (fun c16 => ?_)
      · exact (by have w1 := kc_le c16; have w2 := hvlp8_4; have w3 := hvlp8_1; have w4 : (400 : Int32).toInt = 400 := (by decide +kernel); omega : False).elim
      · have h17 := (kc_nle c16)
        have b18 : kb 0 y3 399 := kr_lt1 h17 b10 kc_400 (by decide)
        refine lv_iconst (v := (-1)) hx hb dX4_readTest_11 (by decide) ?_
        refine lv_istore (lv' := [(4, .int (-1)), (3, .int y3), (2, .int y4), (0, .ref (r 50)), (1, .int dp)]) hx hb dX4_readTest_12 hl (by decide) rfl (fun ls hl => ?_)
        refine lv_iconst (v := 0) hx hb dX4_readTest_14 (by decide) ?_
        refine lv_istore (lv' := [(5, .int 0), (4, .int (-1)), (3, .int y3), (2, .int y4), (0, .ref (r 50)), (1, .int dp)]) hx hb dX4_readTest_15 hl (by decide) rfl (fun ls hl => ?_)
        have lp24 : ∀ (n25 : Nat) (i1 : Nat) (n1 : Nat) (ki : Nat) (F21 : Nat → Int32) (B22 : Nat → Nat → Int32) (G23 : xG) (H : Heap) (locs : List Loc) (ls : Array Slot) (y19 : Int32) (y20 : Int32), (400 < y19.toInt + (n25 : Int)) → (xI F21 B22) → (gOK K G23.2 tt) → (xEk [12, 13, 14, 32, 38, 44, 49, 50, 832, 838, 844, 849, 850, 1603, 1606, 1632] f a g F21 B22 G23) → (xQ F21 B22 N ob T pl) → (kb 0 y19 400) → ((F21 1604).toInt = (i1 : Int)) → (i0 + 2 * ki ≤ i1 ∧ i1 ≤ N) → ((F21 1605).toInt = (n1 : Int) ∧ n1 ≤ 50) → (∀ r, pG ob T d 4 i1 n1 r → pG ob T d 4 i0 n0 r) → (y19.toInt = (ki : Int)) → va_P D vwCl (xX K r F21 B22 G23 tx) H → va_D A (xX K r F21 B22 G23 tx) → va_S A s.heap H locs → lv_has ls 6 [(5, .int y19), (4, .int y20), (3, .int y3), (2, .int y4), (0, .ref (r 50)), (1, .int dp)] → W p l e (rmD (2 * d + 10) 0 0) s m ([.ref (r 50), .int dp] : List Value).toArray below meth c H locs 0 0 (kQi D (tysK K) (fun v (u : xS) => kb 0 v 1 ∧ xI u.1 u.2.1 ∧ gOK K u.2.2.2 tt ∧ xEk [12, 13, 14, 32, 38, 44, 49, 50, 832, 838, 844, 849, 850, 1603, 1606, 1632] f a g u.1 u.2.1 u.2.2 ∧ xQ u.1 u.2.1 N ob T pl ∧ (∃ i2 n2 : Nat, (u.1 1604).toInt = (i2 : Int) ∧ i ≤ i2 ∧ i2 ≤ N ∧ ((v = 1 ∧ ((u.1 1605).toInt = (n2 : Int) ∧ n2 ≤ 50) ∧ i < i2 ∧ pG ob T d 3 i n (true, i2, n2)) ∨ (v = 0 ∧ pG ob T d 3 i n (false, i2, 0))))) (fun u => xX K r u.1 u.2.1 u.2.2 tx) A below ([.ref (r 50), .int dp] : List Value).toArray s 0 0) (F0 m 17 ls []) := by
          intro n25
          induction n25 with
          | zero =>
            intro i1 n1 ki F21 B22 G23  H locs ls y19 y20 hmlp24 hI hG hE hk0 b26 hvlp24_0 hvlp24_1 hvlp24_2 hvlp24_3 hvlp24_4 hP hD hS hl
            exact (by have h1 := b26.2; have h2 := hmlp24; omega : False).elim
          | succ n25 ihlp24 =>
            intro i1 n1 ki F21 B22 G23  H locs ls y19 y20 hmlp24 hI hG hE hk0 b26 hvlp24_0 hvlp24_1 hvlp24_2 hvlp24_3 hvlp24_4 hP hD hS hl
            obtain ⟨gv27, egv27⟩ : ∃ z : Int32, z = F21 1604 := ⟨_, rfl⟩
            have hg28 : gv27.toInt = ((i1 : Nat) : Int) := by rw [egv27]; exact hvlp24_0
            have b29 : kb 0 gv27 400 := kb_pos hvlp24_1.2 hN4 hg28
            obtain ⟨z30, ez30⟩ : ∃ z : Int32, z = F21 1605 := ⟨_, rfl⟩
            have hzz30 : z30.toInt = ((n1 : Nat) : Int) := by rw [ez30]; exact hvlp24_2.1
            have b31 : kb 0 z30 50 := ⟨by omega, by have w1 := hvlp24_2.2; omega⟩
            have xi := hvlp24_3
            refine lv_iload hx hb dX4_readTest_17 (lv_at hl 0 rfl) ?_
            refine lv_sipush (v := 400) hx hb dX4_readTest_19 (by decide) ?_
            refine lv_icmp_ge (tgt := 84) hx hb dX4_readTest_22 (by decide) (fun c32 => ?_) (fun c32 => ?_)
            · exact (by have w1 := kc_le c32; have w2 := hvlp24_4; have w3 := hvlp24_1; have w4 : (400 : Int32).toInt = 400 := (by decide +kernel); omega : False).elim
            · have h33 := (kc_nle c32)
              have b34 : kb 0 y19 399 := kr_lt1 h33 b26 kc_400 (by decide)
              refine lv_aload_n hx hb dX4_readTest_25 rfl (lv_at hl 4 rfl) ?_
              refine lv_iload_n hx hb dX4_readTest_26 rfl (lv_at hl 5 rfl) ?_
              refine kIG.callW (As := [.int dp]) (rest := []) ⟨hx, hb, hml, hown, hg⟩ (hpl l r F21 B22 G23 tx tt hT hI hG dp bdp N (i1) (n1) ob T pl hk0 (by rw [egv27.symm]; exact hg28) hvlp24_1.2 ⟨(by rw [ez30.symm]; exact hzz30), hvlp24_2.2⟩ hp4) (cwV 1 hg (kgV wt4_54 wt4_56 wp2_6 wt1_7 wt4_57) rfl rfl rfl (by decide +kernel) ⟨by dsimp only [rmD]; omega, by dsimp only [rmD]; omega⟩) hV hK hP hD hS hA (50) 4 rfl rfl rfl hl.1 rfl (Nat.le_of_ble_eq_true rfl) dX4_readTest_27 ⟨Nat.le_refl _, Nat.le_refl _⟩ (fun v36 u37 H locs hw35 hP hD hS => ?_)
              obtain ⟨f38, a39, g40⟩ := u37
              have hP : va_P D vwCl (xX K r f38 a39 g40 tx) H := hP
              have hD : va_D A (xX K r f38 a39 g40 tx) := hD
              have hI : xI f38 a39 := hw35.2.1
              have hG : gOK K g40.2 tt := hw35.2.2.1
              have eE41 : xEk [12, 13, 14, 32, 38, 44, 49, 50, 832, 838, 844, 849, 850, 1603, 1606, 1632] F21 B22 G23 f38 a39 g40 := hw35.2.2.2.1
              have hE : xEk [12, 13, 14, 32, 38, 44, 49, 50, 832, 838, 844, 849, 850, 1603, 1606, 1632] f a g f38 a39 g40 := xEk_tr hE eE41
              have hk0 : xQ f38 a39 N ob T pl := hw35.2.2.2.2.1
              obtain ⟨ik42, nk42, hgk42, hlek42, hNk42, hck42⟩ := hw35.2.2.2.2.2
              rcases hck42 with ⟨hvk42, h3k42, hltk42, hGk42⟩ | ⟨hvk42, hGk42⟩
              · refine k_top (z := 1) hvk42 ?_
                obtain ⟨gv43, egv43⟩ : ∃ z : Int32, z = f38 1604 := ⟨_, rfl⟩
                have hg44 : gv43.toInt = ((ik42 : Nat) : Int) := by rw [egv43]; exact hgk42
                have b45 : kb 0 gv43 400 := kb_pos hNk42 hN4 hg44
                obtain ⟨z46, ez46⟩ : ∃ z : Int32, z = f38 1605 := ⟨_, rfl⟩
                have hzz46 : z46.toInt = ((nk42 : Nat) : Int) := by rw [ez46]; exact h3k42.1
                have b47 : kb 0 z46 50 := ⟨by omega, by have w1 := h3k42.2; omega⟩
                refine lv_if_ne (tgt := 35) hx hb dX4_readTest_30 (by decide) (fun c48 => ?_) (fun c48 => ?_)
                · refine lv_aload_n hx hb dX4_readTest_35 rfl (lv_at hl 4 rfl) ?_
                  refine va_get (D := D) (ci := 4) (v := .ref (r 51)) (C := RX4) (T := TX4) (N := 7) hx hb hg inC4 hown hK hP 50 rfl rfl 0 (by decide) (hg _ wt2_64) (fun _ h9 => h9) rfl dX4_readTest_36 ?_
                  refine lv_iload hx hb dX4_readTest_39 (lv_at hl 1 rfl) ?_
                  refine kVG.callW (As := [.int y20]) (rest := []) ⟨hx, hb, hml, hown, hg⟩ (y_land l r f38 a39 g40 tx tt hT hI hG y20  ) (cwV 1 hg (kgV wt4_58 wt4_59 wt4_60 wt1_8 wt4_61) rfl rfl rfl (by decide +kernel) ⟨by dsimp only [rmD]; omega, by dsimp only [rmD]; omega⟩) hV hK hP hD hS hA (51) 10 rfl rfl rfl hl.1 rfl (Nat.le_of_ble_eq_true rfl) dX4_readTest_41 ⟨Nat.le_refl _, Nat.le_refl _⟩ (fun u51 H locs hw49 hP hD hS => ?_)
                  obtain ⟨f52, a53, g54⟩ := u51
                  have hP : va_P D vwCl (xX K r f52 a53 g54 tx) H := hP
                  have hD : va_D A (xX K r f52 a53 g54 tx) := hD
                  have hI : xI f52 a53 := hw49.1
                  have hG : gOK K g54.2 tt := hw49.2.1
                  have eE55 : xEk [12, 13, 14, 32, 38, 44, 49, 50, 832, 838, 844, 849, 850, 1603, 1604, 1605, 1606, 1632] f38 a39 g40 f52 a53 g54 := hw49.2.2.1
                  have hE : xEk [12, 13, 14, 32, 38, 44, 49, 50, 832, 838, 844, 849, 850, 1603, 1606, 1632] f a g f52 a53 g54 := xEk_tr hE (xEk_w (by decide) eE55)
                  have hk0 : xQ f52 a53 N ob T pl := xQ_c hk0 (eE55.1 1603 rfl) (eE55.1 1606 rfl) hw49.2.2.2
                  refine lv_aload_n hx hb dX4_readTest_44 rfl (lv_at hl 4 rfl) ?_
                  refine kIG.callW (As := []) (rest := []) ⟨hx, hb, hml, hown, hg⟩ (y_inHand l r f52 a53 g54 tx tt hT hI hG   N (ik42) ob T pl hk0 (by rw [((eE55.1 1604 rfl).trans egv43.symm)]; exact hg44) hNk42) (cwV 0 hg (kgV wt3_238 wt4_0 wp1_12 wt1_7 wt4_1) rfl rfl rfl (by decide +kernel) ⟨by dsimp only [rmD]; omega, by dsimp only [rmD]; omega⟩) hV hK hP hD hS hA (50) 4 rfl rfl rfl hl.1 rfl (Nat.le_of_ble_eq_true rfl) dX4_readTest_45 ⟨Nat.le_refl _, Nat.le_refl _⟩ (fun v57 u58 H locs hw56 hP hD hS => ?_)
                  have hP : va_P D vwCl (xX K r f52 a53 g54 tx) H := hP
                  have hD : va_D A (xX K r f52 a53 g54 tx) := hD
                  have b59 : kb 0 v57 4000 := kb_eq hw56.2 (hk0.2.2.2.2.2.2 (ik42))
                  refine lv_sipush (v := 2001) hx hb dX4_readTest_48 (by decide) ?_
                  refine lv_icmp_eq (tgt := 57) hx hb dX4_readTest_51 (by decide) (fun c60 => ?_) (fun c60 => ?_)
                  · have b61 : kb 2001 v57 2001 := kb_eq c60 kc_2001
                    refine lv_aload_n hx hb dX4_readTest_57 rfl (lv_at hl 4 rfl) ?_
                    refine lv_dup hx hb dX4_readTest_58 rfl ?_
                    have hlt62 : ik42 < N := xQ_lt hk0 (ne_4000 (hw56.2.symm.trans c60) (by decide +kernel))
                    have b63 : kb 0 gv43 399 := kb_pos1 hlt62 hN4 hg44
                    refine va_get (D := D) (ci := 4) (v := .int (f52 1604)) (C := RX4) (T := TX4) (N := 7) hx hb hg inC4 hown hK hP 50 rfl rfl 4 (by decide) (hg _ wt2_69) (fun _ h9 => h9) rfl dX4_readTest_59 ?_
                    refine k_top (z := gv43) ((eE55.1 1604 rfl).trans egv43.symm) ?_
                    refine lv_iconst (v := 1) hx hb dX4_readTest_62 (by decide) ?_
                    refine lv_iadd hx hb dX4_readTest_63 ?_
                    refine lv_topi (fun t64 et64 => ?_)
                    have b65 : kb 1 t64 400 := kb_eq et64 (kb_add b63 kc_1 (by decide) (by decide))
                    have qt64 : t64.toInt = gv43.toInt + 1 := by rw [et64]; exact kt_addc b63 kc_1 (by decide) (by decide)
                    have hg66 : t64.toInt = ((ik42 + 1 : Nat) : Int) := by rw [qt64, hg44]; omega
                    refine va_put (D := D) (ci := 4) (v := .int t64) (ty := .int) (C := RX4) (T := TX4) (N := 7) hx hb hg inC4 tyX4 tyX4_ok nmX4 hown hK hP hD hS 50 rfl rfl 4 (by decide) (hg _ wt2_69) (fun _ h9 => h9) rfl (by decide +kernel) rfl rfl (Nat.le_of_ble_eq_true rfl) dX4_readTest_64 (fun H locs hP hD hS => ?_)
                    have hP : va_P D vwCl (xX K r (upd f52 1604 t64) a53 g54 tx) H := hP
                    have hD : va_D A (xX K r (upd f52 1604 t64) a53 g54 tx) := hD
                    refine k_gen (P := fun z => va_P D vwCl (xX K r z a53 g54 tx) H ∧ va_D A (xX K r z a53 g54 tx) ∧ (xI z a53) ∧ (gOK K g54.2 tt) ∧ (xEk [12, 13, 14, 32, 38, 44, 49, 50, 832, 838, 844, 849, 850, 1603, 1606, 1632] f a g z a53 g54) ∧ (xQ z a53 N ob T pl)) (upd f52 1604 t64) ⟨hP, hD, (xI_f hI (fI_st hI.1 1604 (kb_any _) (by decide) (by decide))), hG, (xEk_f hE (by decide)), (xQ_f hk0 (by decide) (by decide))⟩ (fun f_67 ef_67 hq => ?_)
                    obtain ⟨hP, hD, hI, hG, hE, hk0⟩ := hq
                    refine lv_aload_n hx hb dX4_readTest_67 rfl (lv_at hl 4 rfl) ?_
                    refine va_get (D := D) (ci := 4) (v := .ref (r 51)) (C := RX4) (T := TX4) (N := 7) hx hb hg inC4 hown hK hP 50 rfl rfl 0 (by decide) (hg _ wt2_64) (fun _ h9 => h9) rfl dX4_readTest_68 ?_
                    refine lv_iconst (v := 4) hx hb dX4_readTest_71 (by decide) ?_
                    refine lv_iconst (v := 0) hx hb dX4_readTest_72 (by decide) ?_
                    refine kIG.callW (As := [.int 4, .int 0]) (rest := []) ⟨hx, hb, hml, hown, hg⟩ (y_emit l r f_67 a53 g54 tx tt hT hI hG 4 0 (kb_w kc_4 (by decide) (by decide)) ) (cwV 2 hg (kgV wt4_14 wt4_15 wt4_16 wt1_8 wt4_17) rfl rfl rfl (by decide +kernel) ⟨by dsimp only [rmD]; omega, by dsimp only [rmD]; omega⟩) hV hK hP hD hS hA (51) 10 rfl rfl rfl hl.1 rfl (Nat.le_of_ble_eq_true rfl) dX4_readTest_73 ⟨Nat.le_refl _, Nat.le_refl _⟩ (fun v69 u70 H locs hw68 hP hD hS => ?_)
                    obtain ⟨f71, a72, g73⟩ := u70
                    have hP : va_P D vwCl (xX K r f71 a72 g73 tx) H := hP
                    have hD : va_D A (xX K r f71 a72 g73 tx) := hD
                    have hI : xI f71 a72 := hw68.2.1
                    have hG : gOK K g73.2 tt := hw68.2.2.1
                    have eE74 : xEk [12, 13, 14, 32, 38, 44, 49, 50, 832, 838, 844, 849, 850, 1603, 1604, 1605, 1606, 1632] f_67 a53 g54 f71 a72 g73 := hw68.2.2.2.1
                    have hE : xEk [12, 13, 14, 32, 38, 44, 49, 50, 832, 838, 844, 849, 850, 1603, 1606, 1632] f a g f71 a72 g73 := xEk_tr hE (xEk_w (by decide) eE74)
                    have hk0 : xQ f71 a72 N ob T pl := xQ_c hk0 (eE74.1 1603 rfl) (eE74.1 1606 rfl) hw68.2.2.2.2
                    refine lv_istore (lv' := [(4, .int v69), (5, .int y19), (3, .int y3), (2, .int y4), (0, .ref (r 50)), (1, .int dp)]) hx hb dX4_readTest_76 hl (by decide) rfl (fun ls hl => ?_)
                    obtain ⟨t75, et75⟩ : ∃ z : Int32, z = y19 + Int32.ofInt 1 := ⟨_, rfl⟩
                    have qt75 : t75.toInt = y19.toInt + 1 := by rw [et75]; exact km_inc b34 (by decide) (by decide)
                    have b76 : kb 1 t75 400 := kb_inc (k := 1) qt75 b34
                    refine lv_iinc (v := t75) (lv' := [(5, .int t75), (4, .int v69), (3, .int y3), (2, .int y4), (0, .ref (r 50)), (1, .int dp)]) hx hb dX4_readTest_78 hl (k := 1) rfl et75.symm (by decide) rfl (fun ls hl => ?_)
                    refine lv_goto (tgt := 17) hx hb dX4_readTest_81 (by decide) ?_
                    exact ihlp24 (ik42 + 1) (nk42) (ki + 1) f71 a72 g73 _ _ _ t75 v69 (km_up hmlp24 qt75) hI hG hE hk0 (kb_w b76 (by decide) (by decide)) (by rw [((eE74.1 1604 rfl).trans (show f_67 1604 = t64 from by rw [← ef_67]; rfl))]; exact hg66) (⟨by have w1 := hvlp24_1.1; omega, hlt62⟩) (⟨(by rw [((eE74.1 1605 rfl).trans ((show f_67 1605 = f52 1605 from by rw [← ef_67]; rfl).trans ((eE55.1 1605 rfl).trans ez46.symm)))]; exact hzz46), h3k42.2⟩) (fun r h => xi r (pi_4 hGk42 (pi_9y (hw56.2.symm.trans c60) h))) (by have w1 := hvlp24_4; omega) hP hD hS (lv_sub hl [0, 1, 2, 3, 4, 5] rfl)
                  · refine lv_goto (tgt := 84) hx hb dX4_readTest_54 (by decide) ?_
                    have hI77 : pG ob T d 4 i0 n0 (true, ik42, nk42) := xi _ (pi_4 hGk42 (pi_9n (fun q => c60 (hw56.2.trans q))))
                    refine lv_aload_n hx hb dX4_readTest_84 rfl (lv_at hl 4 rfl) ?_
                    refine va_get (D := D) (ci := 4) (v := .ref (r 51)) (C := RX4) (T := TX4) (N := 7) hx hb hg inC4 hown hK hP 50 rfl rfl 0 (by decide) (hg _ wt2_64) (fun _ h9 => h9) rfl dX4_readTest_85 ?_
                    refine lv_iload_n hx hb dX4_readTest_88 rfl (lv_at hl 3 rfl) ?_
                    refine kVG.callW (As := [.int y4]) (rest := []) ⟨hx, hb, hml, hown, hg⟩ (y_land l r f52 a53 g54 tx tt hT hI hG y4  ) (cwV 1 hg (kgV wt4_58 wt4_59 wt4_60 wt1_8 wt4_61) rfl rfl rfl (by decide +kernel) ⟨by dsimp only [rmD]; omega, by dsimp only [rmD]; omega⟩) hV hK hP hD hS hA (51) 10 rfl rfl rfl hl.1 rfl (Nat.le_of_ble_eq_true rfl) dX4_readTest_89 ⟨Nat.le_refl _, Nat.le_refl _⟩ (fun u80 H locs hw78 hP hD hS => ?_)
                    obtain ⟨f81, a82, g83⟩ := u80
                    have hP : va_P D vwCl (xX K r f81 a82 g83 tx) H := hP
                    have hD : va_D A (xX K r f81 a82 g83 tx) := hD
                    have hI : xI f81 a82 := hw78.1
                    have hG : gOK K g83.2 tt := hw78.2.1
                    have eE84 : xEk [12, 13, 14, 32, 38, 44, 49, 50, 832, 838, 844, 849, 850, 1603, 1604, 1605, 1606, 1632] f52 a53 g54 f81 a82 g83 := hw78.2.2.1
                    have hE : xEk [12, 13, 14, 32, 38, 44, 49, 50, 832, 838, 844, 849, 850, 1603, 1606, 1632] f a g f81 a82 g83 := xEk_tr hE (xEk_w (by decide) eE84)
                    have hk0 : xQ f81 a82 N ob T pl := xQ_c hk0 (eE84.1 1603 rfl) (eE84.1 1606 rfl) hw78.2.2.2
                    refine lv_aload_n hx hb dX4_readTest_92 rfl (lv_at hl 4 rfl) ?_
                    refine kIG.callW (As := []) (rest := []) ⟨hx, hb, hml, hown, hg⟩ (y_inHand l r f81 a82 g83 tx tt hT hI hG   N (ik42) ob T pl hk0 (by rw [((eE84.1 1604 rfl).trans ((eE55.1 1604 rfl).trans egv43.symm))]; exact hg44) hNk42) (cwV 0 hg (kgV wt3_238 wt4_0 wp1_12 wt1_7 wt4_1) rfl rfl rfl (by decide +kernel) ⟨by dsimp only [rmD]; omega, by dsimp only [rmD]; omega⟩) hV hK hP hD hS hA (50) 4 rfl rfl rfl hl.1 rfl (Nat.le_of_ble_eq_true rfl) dX4_readTest_93 ⟨Nat.le_refl _, Nat.le_refl _⟩ (fun v86 u87 H locs hw85 hP hD hS => ?_)
                    have hP : va_P D vwCl (xX K r f81 a82 g83 tx) H := hP
                    have hD : va_D A (xX K r f81 a82 g83 tx) := hD
                    have b88 : kb 0 v86 4000 := kb_eq hw85.2 (hk0.2.2.2.2.2.2 (ik42))
                    refine lv_sipush (v := 2000) hx hb dX4_readTest_96 (by decide) ?_
                    refine lv_icmp_eq (tgt := 104) hx hb dX4_readTest_99 (by decide) (fun c89 => ?_) (fun c89 => ?_)
                    · have b90 : kb 2000 v86 2000 := kb_eq c89 kc_2000
                      refine lv_aload_n hx hb dX4_readTest_104 rfl (lv_at hl 4 rfl) ?_
                      refine lv_dup hx hb dX4_readTest_105 rfl ?_
                      have hlt91 : ik42 < N := xQ_lt hk0 (ne_4000 (hw85.2.symm.trans c89) (by decide +kernel))
                      have b92 : kb 0 gv43 399 := kb_pos1 hlt91 hN4 hg44
                      refine va_get (D := D) (ci := 4) (v := .int (f81 1604)) (C := RX4) (T := TX4) (N := 7) hx hb hg inC4 hown hK hP 50 rfl rfl 4 (by decide) (hg _ wt2_69) (fun _ h9 => h9) rfl dX4_readTest_106 ?_
                      refine k_top (z := gv43) ((eE84.1 1604 rfl).trans ((eE55.1 1604 rfl).trans egv43.symm)) ?_
                      refine lv_iconst (v := 1) hx hb dX4_readTest_109 (by decide) ?_
                      refine lv_iadd hx hb dX4_readTest_110 ?_
                      refine lv_topi (fun t93 et93 => ?_)
                      have b94 : kb 1 t93 400 := kb_eq et93 (kb_add b92 kc_1 (by decide) (by decide))
                      have qt93 : t93.toInt = gv43.toInt + 1 := by rw [et93]; exact kt_addc b92 kc_1 (by decide) (by decide)
                      have hg95 : t93.toInt = ((ik42 + 1 : Nat) : Int) := by rw [qt93, hg44]; omega
                      refine va_put (D := D) (ci := 4) (v := .int t93) (ty := .int) (C := RX4) (T := TX4) (N := 7) hx hb hg inC4 tyX4 tyX4_ok nmX4 hown hK hP hD hS 50 rfl rfl 4 (by decide) (hg _ wt2_69) (fun _ h9 => h9) rfl (by decide +kernel) rfl rfl (Nat.le_of_ble_eq_true rfl) dX4_readTest_111 (fun H locs hP hD hS => ?_)
                      have hP : va_P D vwCl (xX K r (upd f81 1604 t93) a82 g83 tx) H := hP
                      have hD : va_D A (xX K r (upd f81 1604 t93) a82 g83 tx) := hD
                      refine k_gen (P := fun z => va_P D vwCl (xX K r z a82 g83 tx) H ∧ va_D A (xX K r z a82 g83 tx) ∧ (xI z a82) ∧ (gOK K g83.2 tt) ∧ (xEk [12, 13, 14, 32, 38, 44, 49, 50, 832, 838, 844, 849, 850, 1603, 1606, 1632] f a g z a82 g83) ∧ (xQ z a82 N ob T pl)) (upd f81 1604 t93) ⟨hP, hD, (xI_f hI (fI_st hI.1 1604 (kb_any _) (by decide) (by decide))), hG, (xEk_f hE (by decide)), (xQ_f hk0 (by decide) (by decide))⟩ (fun f_96 ef_96 hq => ?_)
                      obtain ⟨hP, hD, hI, hG, hE, hk0⟩ := hq
                      refine lv_aload_n hx hb dX4_readTest_114 rfl (lv_at hl 4 rfl) ?_
                      refine va_get (D := D) (ci := 4) (v := .ref (r 51)) (C := RX4) (T := TX4) (N := 7) hx hb hg inC4 hown hK hP 50 rfl rfl 0 (by decide) (hg _ wt2_64) (fun _ h9 => h9) rfl dX4_readTest_115 ?_
                      refine lv_iconst (v := 3) hx hb dX4_readTest_118 (by decide) ?_
                      refine lv_iconst (v := 0) hx hb dX4_readTest_119 (by decide) ?_
                      refine kIG.callW (As := [.int 3, .int 0]) (rest := []) ⟨hx, hb, hml, hown, hg⟩ (y_emit l r f_96 a82 g83 tx tt hT hI hG 3 0 (kb_w kc_3 (by decide) (by decide)) ) (cwV 2 hg (kgV wt4_14 wt4_15 wt4_16 wt1_8 wt4_17) rfl rfl rfl (by decide +kernel) ⟨by dsimp only [rmD]; omega, by dsimp only [rmD]; omega⟩) hV hK hP hD hS hA (51) 10 rfl rfl rfl hl.1 rfl (Nat.le_of_ble_eq_true rfl) dX4_readTest_120 ⟨Nat.le_refl _, Nat.le_refl _⟩ (fun v98 u99 H locs hw97 hP hD hS => ?_)
                      obtain ⟨f100, a101, g102⟩ := u99
                      have hP : va_P D vwCl (xX K r f100 a101 g102 tx) H := hP
                      have hD : va_D A (xX K r f100 a101 g102 tx) := hD
                      have hI : xI f100 a101 := hw97.2.1
                      have hG : gOK K g102.2 tt := hw97.2.2.1
                      have eE103 : xEk [12, 13, 14, 32, 38, 44, 49, 50, 832, 838, 844, 849, 850, 1603, 1604, 1605, 1606, 1632] f_96 a82 g83 f100 a101 g102 := hw97.2.2.2.1
                      have hE : xEk [12, 13, 14, 32, 38, 44, 49, 50, 832, 838, 844, 849, 850, 1603, 1606, 1632] f a g f100 a101 g102 := xEk_tr hE (xEk_w (by decide) eE103)
                      have hk0 : xQ f100 a101 N ob T pl := xQ_c hk0 (eE103.1 1603 rfl) (eE103.1 1606 rfl) hw97.2.2.2.2
                      refine lv_istore_n (lv' := [(2, .int v98), (5, .int y19), (4, .int y20), (3, .int y3), (0, .ref (r 50)), (1, .int dp)]) hx hb dX4_readTest_123 rfl hl (by decide) rfl (fun ls hl => ?_)
                      obtain ⟨t104, et104⟩ : ∃ z : Int32, z = y3 + Int32.ofInt 1 := ⟨_, rfl⟩
                      have qt104 : t104.toInt = y3.toInt + 1 := by rw [et104]; exact km_inc b18 (by decide) (by decide)
                      have b105 : kb 1 t104 400 := kb_inc (k := 1) qt104 b18
                      refine lv_iinc (v := t104) (lv' := [(3, .int t104), (2, .int v98), (5, .int y19), (4, .int y20), (0, .ref (r 50)), (1, .int dp)]) hx hb dX4_readTest_124 hl (k := 3) rfl et104.symm (by decide) rfl (fun ls hl => ?_)
                      refine lv_goto (tgt := 4) hx hb dX4_readTest_127 (by decide) ?_
                      exact ihlp8 (ik42 + 1) (nk42) (ko + 1) f100 a101 g102 _ _ _ t104 v98 (km_up hmlp8 qt104) hI hG hE hk0 (kb_w b105 (by decide) (by decide)) (by rw [((eE103.1 1604 rfl).trans (show f_96 1604 = t93 from by rw [← ef_96]; rfl))]; exact hg95) (⟨by have w1 := hvlp8_1.1; omega, hlt91⟩) (⟨(by rw [((eE103.1 1605 rfl).trans ((show f_96 1605 = f81 1605 from by rw [← ef_96]; rfl).trans ((eE84.1 1605 rfl).trans ((eE55.1 1605 rfl).trans ez46.symm))))]; exact hzz46), h3k42.2⟩) (fun r h => xo r (pi_3 hI77 (pi_8y (hw85.2.symm.trans c89) h))) (by have w1 := hvlp8_4; omega) hP hD hS (lv_sub hl [0, 1, 4, 5] rfl)
                    · refine lv_iconst (v := 1) hx hb dX4_readTest_102 (by decide) ?_
                      exact kI_ret (v := 1) hx hb hr hlocks (by decide +kernel) hK hS dX4_readTest_103 (f81, a82, g83) hP hD ⟨(kb_w kc_1 (by decide) (by decide)), hI, hG, hE, hk0, ⟨ik42, nk42, (by show (f81 1604).toInt = ((ik42 : Nat) : Int); rw [((eE84.1 1604 rfl).trans ((eE55.1 1604 rfl).trans egv43.symm))]; exact hg44), (Nat.le_trans (Nat.le_trans (Nat.le_trans (Nat.le_trans (Nat.le_add_right _ _) hvlp8_1.1) (Nat.le_add_right _ _)) hvlp24_1.1) hlek42), hNk42, Or.inl ⟨rfl, ⟨(by show (f81 1605).toInt = ((nk42 : Nat) : Int); rw [((eE84.1 1605 rfl).trans ((eE55.1 1605 rfl).trans ez46.symm))]; exact hzz46), h3k42.2⟩, (by omega), xo _ (pi_3 hI77 (pi_8n (fun q => c89 (hw85.2.trans q))))⟩⟩⟩
                · exact kb_dj c48 kc_1 kc_0 (by decide)
              · refine k_top (z := 0) hvk42 ?_
                obtain ⟨gv106, egv106⟩ : ∃ z : Int32, z = f38 1604 := ⟨_, rfl⟩
                have hg107 : gv106.toInt = ((ik42 : Nat) : Int) := by rw [egv106]; exact hgk42
                have b108 : kb 0 gv106 400 := kb_pos hNk42 hN4 hg107
                refine lv_if_ne (tgt := 35) hx hb dX4_readTest_30 (by decide) (fun c109 => ?_) (fun c109 => ?_)
                · exact kb_nsame c109 kc_0 kc_0
                · refine lv_iconst (v := 0) hx hb dX4_readTest_33 (by decide) ?_
                  exact kI_ret (v := 0) hx hb hr hlocks (by decide +kernel) hK hS dX4_readTest_34 (f38, a39, g40) hP hD ⟨(kb_w kc_0 (by decide) (by decide)), hI, hG, hE, hk0, ⟨ik42, 0, (by show (f38 1604).toInt = ((ik42 : Nat) : Int); rw [egv106.symm]; exact hg107), (Nat.le_trans (Nat.le_trans (Nat.le_trans (Nat.le_trans (Nat.le_add_right _ _) hvlp8_1.1) (Nat.le_add_right _ _)) hvlp24_1.1) hlek42), hNk42, Or.inr ⟨rfl, xo _ (pi_3f (xi _ (pi_4f hGk42)))⟩⟩⟩
        exact lp24 (401) (i0) (n0) 0 F5 B6 G7 _ _ _ 0 (-1) (by have h1 := (kc_0); unfold kb at h1; omega) hI hG hE hk0 (kb_w kc_0 (by decide) (by decide)) (by rw [egv11.symm]; exact hg12) (⟨by omega, hvlp8_1.2⟩) (⟨(by rw [ez14.symm]; exact hzz14), hvlp8_2.2⟩) (fun r h => h) (by decide +kernel) hP hD hS (lv_sub hl [0, 1, 2, 3, 4, 5] rfl)
  exact lp8 (401) (i) (n) 0 f a g _ _ _ 0 (-1) (by have h1 := (kc_0); unfold kb at h1; omega) hI hG hE hk0 (kb_w kc_0 (by decide) (by decide)) (by rw [ecz4.symm]; exact hg0) (⟨by omega, hp2⟩) (⟨(by rw [ecz5.symm]; exact hn5), hl5⟩) (fun r h => h) (by decide +kernel) hP hD hS (lv_sub hl [0, 1, 2, 3] rfl)
set_option maxHeartbeats 4000000 in
set_option maxRecDepth 100000 in
theorem y_readPlain (d : Nat) (ih : ∀ ee, d = ee + 1 → eXTest ee) (hsum : eXSum d) (l : Launch) {D : va_G} {K : Nat → ClassId} (r : Nat → Nat) (f : Nat → Int32) (a : Nat → Nat → Int32) (g : xG) (tx tt : va_W) (hT : ∀ c ∈ tt, c ∈ tx) (hI : xI f a) (hG : gOK K g.2 tt) (dp : Int32) (bdp : kb 0 dp 8) (N i n : Nat) (ob : Bool) (T pl : Nat → Int32) (hp0 : xQ f a N ob T pl) (hp1 : (f 1604).toInt = (i : Int)) (hp2 : i ≤ N) (hp3 : (f 1605).toInt = (n : Int) ∧ n ≤ 50) (hp4 : dp.toInt + (d : Int) = 8) : kIG l yX4_readPlain (Cond.code yX4_readPlain cX4_readPlain 4 (some .boolean) :: kG) (rmD (2 * d + 9) 0 0) D K [.ref (r 50), .int dp] (xX K r f a g tx) (fun v (u : xS) => kb 0 v 1 ∧ xI u.1 u.2.1 ∧ gOK K u.2.2.2 tt ∧ xEk [12, 13, 14, 32, 38, 44, 49, 50, 832, 838, 844, 849, 850, 1603, 1606, 1632] f a g u.1 u.2.1 u.2.2 ∧ xQ u.1 u.2.1 N ob T pl ∧ (∃ i2 n2 : Nat, (u.1 1604).toInt = (i2 : Int) ∧ i ≤ i2 ∧ i2 ≤ N ∧ ((v = 1 ∧ ((u.1 1605).toInt = (n2 : Int) ∧ n2 ≤ 50) ∧ i < i2 ∧ pG ob T d 5 i n (true, i2, n2)) ∨ (v = 0 ∧ pG ob T d 5 i n (false, i2, 0))))) (fun u => xX K r u.1 u.2.1 u.2.2 tx) 0 0 := by
  refine kIE.of (cc := cX4_readPlain) (maxL := 4) (ret := (some .boolean)) (by decide) rfl (Nat.le_of_ble_eq_true rfl) ?_
  intro p e s m below meth c A hx hb hr hml hown hts hlocks hnm hK hP hD hS hA hV ls hl
  have hE : xEk [12, 13, 14, 32, 38, 44, 49, 50, 832, 838, 844, 849, 850, 1603, 1606, 1632] f a g f a g := xEk_rf
  have hg : ∀ w ∈ kG, w.before _ s = true := fun w h => hts w (List.mem_cons_of_mem _ h)
  have hown : s.vm.findClass RX4 = some m.cls := hown
  have hl : lv_has ls 4 [(0, .ref (r 50)), (1, .int dp)] := hl
  have hk0 := hp0
  have hN4 := hp0.2.1
  obtain ⟨cz4, ecz4⟩ : ∃ z : Int32, z = f 1604 := ⟨_, rfl⟩
  have hg0 : cz4.toInt = (i : Int) := by rw [ecz4]; exact hp1
  have b1 : kb 0 cz4 400 := kb_pos hp2 hN4 hg0
  obtain ⟨cz5, ecz5⟩ : ∃ z : Int32, z = f 1605 := ⟨_, rfl⟩
  have hn5 : cz5.toInt = (n : Int) := by rw [ecz5]; exact hp3.1
  have hl5 := hp3.2
  have b2 : kb 0 cz5 50 := ⟨by omega, by omega⟩
  refine lv_iconst (v := 0) hx hb dX4_readPlain_0 (by decide) ?_
  refine lv_istore_n (lv' := [(2, .int 0), (0, .ref (r 50)), (1, .int dp)]) hx hb dX4_readPlain_1 rfl hl (by decide) rfl (fun ls hl => ?_)
  refine lv_iconst (v := 0) hx hb dX4_readPlain_2 (by decide) ?_
  refine lv_istore_n (lv' := [(3, .int 0), (2, .int 0), (0, .ref (r 50)), (1, .int dp)]) hx hb dX4_readPlain_3 rfl hl (by decide) rfl (fun ls hl => ?_)
  have lp6 : ∀ (n7 : Nat) (i5 : Nat) (n5 : Nat) (ko : Nat) (F5 : Nat → Int32) (H : Heap) (locs : List Loc) (ls : Array Slot) (y3 : Int32) (y4 : Int32), (400 < y3.toInt + (n7 : Int)) → (xI F5 a) → (gOK K g.2 tt) → (xEk [12, 13, 14, 32, 38, 44, 49, 50, 832, 838, 844, 849, 850, 1603, 1606, 1632] f a g F5 a g) → (xQ F5 a N ob T pl) → (kb 0 y3 400) → (kb 0 y4 1) → ((F5 1604).toInt = (i5 : Int)) → (i + ko ≤ i5 ∧ i5 ≤ N) → ((F5 1605).toInt = (n5 : Int) ∧ n5 ≤ 50) → (∀ r, pG ob T d 5 i5 n5 r → pG ob T d 5 i n r) → (y3.toInt = (ko : Int)) → va_P D vwCl (xX K r F5 a g tx) H → va_D A (xX K r F5 a g tx) → va_S A s.heap H locs → lv_has ls 4 [(3, .int y3), (2, .int y4), (0, .ref (r 50)), (1, .int dp)] → W p l e (rmD (2 * d + 9) 0 0) s m ([.ref (r 50), .int dp] : List Value).toArray below meth c H locs 0 0 (kQi D (tysK K) (fun v (u : xS) => kb 0 v 1 ∧ xI u.1 u.2.1 ∧ gOK K u.2.2.2 tt ∧ xEk [12, 13, 14, 32, 38, 44, 49, 50, 832, 838, 844, 849, 850, 1603, 1606, 1632] f a g u.1 u.2.1 u.2.2 ∧ xQ u.1 u.2.1 N ob T pl ∧ (∃ i2 n2 : Nat, (u.1 1604).toInt = (i2 : Int) ∧ i ≤ i2 ∧ i2 ≤ N ∧ ((v = 1 ∧ ((u.1 1605).toInt = (n2 : Int) ∧ n2 ≤ 50) ∧ i < i2 ∧ pG ob T d 5 i n (true, i2, n2)) ∨ (v = 0 ∧ pG ob T d 5 i n (false, i2, 0))))) (fun u => xX K r u.1 u.2.1 u.2.2 tx) A below ([.ref (r 50), .int dp] : List Value).toArray s 0 0) (F0 m 4 ls []) := by
    intro n7
    induction n7 with
    | zero =>
      intro i5 n5 ko F5  H locs ls y3 y4 hmlp6 hI hG hE hk0 b8 b9 hvlp6_0 hvlp6_1 hvlp6_2 hvlp6_3 hvlp6_4 hP hD hS hl
      exact (by have h1 := b8.2; have h2 := hmlp6; omega : False).elim
    | succ n7 ihlp6 =>
      intro i5 n5 ko F5  H locs ls y3 y4 hmlp6 hI hG hE hk0 b8 b9 hvlp6_0 hvlp6_1 hvlp6_2 hvlp6_3 hvlp6_4 hP hD hS hl
      obtain ⟨gv10, egv10⟩ : ∃ z : Int32, z = F5 1604 := ⟨_, rfl⟩
      have hg11 : gv10.toInt = ((i5 : Nat) : Int) := by rw [egv10]; exact hvlp6_0
      have b12 : kb 0 gv10 400 := kb_pos hvlp6_1.2 hN4 hg11
      obtain ⟨z13, ez13⟩ : ∃ z : Int32, z = F5 1605 := ⟨_, rfl⟩
      have hzz13 : z13.toInt = ((n5 : Nat) : Int) := by rw [ez13]; exact hvlp6_2.1
      have b14 : kb 0 z13 50 := ⟨by omega, by have w1 := hvlp6_2.2; omega⟩
      have xc := hvlp6_3
      refine lv_iload_n hx hb dX4_readPlain_4 rfl (lv_at hl 0 rfl) ?_
      refine lv_sipush (v := 400) hx hb dX4_readPlain_5 (by decide) ?_
      refine lv_icmp_ge (tgt := 47) hx hb dX4_readPlain_8 (by decide) (fun c15 => ?_) (fun c15 => ?_)
      · have h16 := (kc_le c15)
        have b17 : kb 400 y3 400 := kr_le2 h16 kc_400 b8
        have hn8 : ¬ T i5 = 2002 := by have w1 := kc_le c15; have w2 := hvlp6_4; have w3 := hvlp6_1; have w4 : (400 : Int32).toInt = 400 := (by decide +kernel); rw [hk0.2.2.2.2.2.1 i5 (by omega)]; decide +kernel
        refine lv_aload_n hx hb dX4_readPlain_47 rfl (lv_at hl 2 rfl) ?_
        refine kIG.callW (As := []) (rest := []) ⟨hx, hb, hml, hown, hg⟩ (y_inHand l r F5 a g tx tt hT hI hG   N (i5) ob T pl hk0 (by rw [egv10.symm]; exact hg11) hvlp6_1.2) (cwV 0 hg (kgV wt3_238 wt4_0 wp1_12 wt1_7 wt4_1) rfl rfl rfl (by decide +kernel) ⟨by dsimp only [rmD]; omega, by dsimp only [rmD]; omega⟩) hV hK hP hD hS hA (50) 4 rfl rfl rfl hl.1 rfl (Nat.le_of_ble_eq_true rfl) dX4_readPlain_48 ⟨Nat.le_refl _, Nat.le_refl _⟩ (fun v19 u20 H locs hw18 hP hD hS => ?_)
        have hP : va_P D vwCl (xX K r F5 a g tx) H := hP
        have hD : va_D A (xX K r F5 a g tx) := hD
        have b21 : kb 0 v19 4000 := kb_eq hw18.2 (hk0.2.2.2.2.2.2 (i5))
        refine lv_sipush (v := 3040) hx hb dX4_readPlain_51 (by decide) ?_
        refine lv_icmp_ne (tgt := 110) hx hb dX4_readPlain_54 (by decide) (fun c22 => ?_) (fun c22 => ?_)
        · refine lv_aload_n hx hb dX4_readPlain_110 rfl (lv_at hl 2 rfl) ?_
          refine lv_iload_n hx hb dX4_readPlain_111 rfl (lv_at hl 3 rfl) ?_
          refine kIG.callW (As := [.int dp]) (rest := []) ⟨hx, hb, hml, hown, hg⟩ (hsum l r F5 a g tx tt hT hI hG dp bdp N (i5) (n5) ob T pl hk0 (by rw [egv10.symm]; exact hg11) hvlp6_1.2 ⟨(by rw [ez13.symm]; exact hzz13), hvlp6_2.2⟩ hp4) (cwV 1 hg (kgV wt4_6 wt4_8 wp1_13 wt1_7 wt4_9) rfl rfl rfl (by decide +kernel) ⟨by dsimp only [rmD]; omega, by dsimp only [rmD]; omega⟩) hV hK hP hD hS hA (50) 4 rfl rfl rfl hl.1 rfl (Nat.le_of_ble_eq_true rfl) dX4_readPlain_112 ⟨Nat.le_refl _, Nat.le_refl _⟩ (fun v24 u25 H locs hw23 hP hD hS => ?_)
          obtain ⟨f26, a27, g28⟩ := u25
          have hP : va_P D vwCl (xX K r f26 a27 g28 tx) H := hP
          have hD : va_D A (xX K r f26 a27 g28 tx) := hD
          have hI : xI f26 a27 := hw23.2.1
          have hG : gOK K g28.2 tt := hw23.2.2.1
          have eE29 : xEk [12, 13, 14, 32, 38, 44, 49, 50, 832, 838, 844, 849, 850, 1603, 1606, 1632] F5 a g f26 a27 g28 := hw23.2.2.2.1
          have hE : xEk [12, 13, 14, 32, 38, 44, 49, 50, 832, 838, 844, 849, 850, 1603, 1606, 1632] f a g f26 a27 g28 := xEk_tr hE eE29
          have hk0 : xQ f26 a27 N ob T pl := hw23.2.2.2.2.1
          obtain ⟨ik30, nk30, hgk30, hlek30, hNk30, hck30⟩ := hw23.2.2.2.2.2
          rcases hck30 with ⟨hvk30, h3k30, hltk30, hGk30⟩ | ⟨hvk30, hGk30⟩
          · refine k_top (z := 1) hvk30 ?_
            obtain ⟨gv31, egv31⟩ : ∃ z : Int32, z = f26 1604 := ⟨_, rfl⟩
            have hg32 : gv31.toInt = ((ik30 : Nat) : Int) := by rw [egv31]; exact hgk30
            have b33 : kb 0 gv31 400 := kb_pos hNk30 hN4 hg32
            obtain ⟨z34, ez34⟩ : ∃ z : Int32, z = f26 1605 := ⟨_, rfl⟩
            have hzz34 : z34.toInt = ((nk30 : Nat) : Int) := by rw [ez34]; exact h3k30.1
            have b35 : kb 0 z34 50 := ⟨by omega, by have w1 := h3k30.2; omega⟩
            refine lv_if_ne (tgt := 120) hx hb dX4_readPlain_115 (by decide) (fun c36 => ?_) (fun c36 => ?_)
            · refine lv_aload_n hx hb dX4_readPlain_120 rfl (lv_at hl 2 rfl) ?_
              refine kIG.callW (As := []) (rest := []) ⟨hx, hb, hml, hown, hg⟩ (y_inHand l r f26 a27 g28 tx tt hT hI hG   N (ik30) ob T pl hk0 (by rw [egv31.symm]; exact hg32) hNk30) (cwV 0 hg (kgV wt3_238 wt4_0 wp1_12 wt1_7 wt4_1) rfl rfl rfl (by decide +kernel) ⟨by dsimp only [rmD]; omega, by dsimp only [rmD]; omega⟩) hV hK hP hD hS hA (50) 4 rfl rfl rfl hl.1 rfl (Nat.le_of_ble_eq_true rfl) dX4_readPlain_121 ⟨Nat.le_refl _, Nat.le_refl _⟩ (fun v38 u39 H locs hw37 hP hD hS => ?_)
              have hP : va_P D vwCl (xX K r f26 a27 g28 tx) H := hP
              have hD : va_D A (xX K r f26 a27 g28 tx) := hD
              have b40 : kb 0 v38 4000 := kb_eq hw37.2 (hk0.2.2.2.2.2.2 (ik30))
              refine lv_sipush (v := 3060) hx hb dX4_readPlain_124 (by decide) ?_
              refine lv_icmp_ne (tgt := 135) hx hb dX4_readPlain_127 (by decide) (fun c41 => ?_) (fun c41 => ?_)
              · refine lv_aload_n hx hb dX4_readPlain_135 rfl (lv_at hl 2 rfl) ?_
                refine kIG.callW (As := []) (rest := []) ⟨hx, hb, hml, hown, hg⟩ (y_inHand l r f26 a27 g28 tx tt hT hI hG   N (ik30) ob T pl hk0 (by rw [egv31.symm]; exact hg32) hNk30) (cwV 0 hg (kgV wt3_238 wt4_0 wp1_12 wt1_7 wt4_1) rfl rfl rfl (by decide +kernel) ⟨by dsimp only [rmD]; omega, by dsimp only [rmD]; omega⟩) hV hK hP hD hS hA (50) 4 rfl rfl rfl hl.1 rfl (Nat.le_of_ble_eq_true rfl) dX4_readPlain_136 ⟨Nat.le_refl _, Nat.le_refl _⟩ (fun v43 u44 H locs hw42 hP hD hS => ?_)
                have hP : va_P D vwCl (xX K r f26 a27 g28 tx) H := hP
                have hD : va_D A (xX K r f26 a27 g28 tx) := hD
                have b45 : kb 0 v43 4000 := kb_eq hw42.2 (hk0.2.2.2.2.2.2 (ik30))
                refine lv_sipush (v := 3062) hx hb dX4_readPlain_139 (by decide) ?_
                refine lv_icmp_ne (tgt := 150) hx hb dX4_readPlain_142 (by decide) (fun c46 => ?_) (fun c46 => ?_)
                · refine lv_aload_n hx hb dX4_readPlain_150 rfl (lv_at hl 2 rfl) ?_
                  refine kIG.callW (As := []) (rest := []) ⟨hx, hb, hml, hown, hg⟩ (y_inHand l r f26 a27 g28 tx tt hT hI hG   N (ik30) ob T pl hk0 (by rw [egv31.symm]; exact hg32) hNk30) (cwV 0 hg (kgV wt3_238 wt4_0 wp1_12 wt1_7 wt4_1) rfl rfl rfl (by decide +kernel) ⟨by dsimp only [rmD]; omega, by dsimp only [rmD]; omega⟩) hV hK hP hD hS hA (50) 4 rfl rfl rfl hl.1 rfl (Nat.le_of_ble_eq_true rfl) dX4_readPlain_151 ⟨Nat.le_refl _, Nat.le_refl _⟩ (fun v48 u49 H locs hw47 hP hD hS => ?_)
                  have hP : va_P D vwCl (xX K r f26 a27 g28 tx) H := hP
                  have hD : va_D A (xX K r f26 a27 g28 tx) := hD
                  have b50 : kb 0 v48 4000 := kb_eq hw47.2 (hk0.2.2.2.2.2.2 (ik30))
                  refine lv_sipush (v := 3061) hx hb dX4_readPlain_154 (by decide) ?_
                  refine lv_icmp_ne (tgt := 165) hx hb dX4_readPlain_157 (by decide) (fun c51 => ?_) (fun c51 => ?_)
                  · refine lv_iconst (v := (-1)) hx hb dX4_readPlain_165 (by decide) ?_
                    refine lv_istore_n (lv' := [(3, .int (-1)), (2, .int y4), (0, .ref (r 50)), (1, .int dp)]) hx hb dX4_readPlain_166 rfl hl (by decide) rfl (fun ls hl => ?_)
                    refine lv_iload_n hx hb dX4_readPlain_167 rfl (lv_at hl 0 rfl) ?_
                    refine lv_iconst (v := (-1)) hx hb dX4_readPlain_168 (by decide) ?_
                    refine lv_icmp_ne (tgt := 174) hx hb dX4_readPlain_169 (by decide) (fun c52 => ?_) (fun c52 => ?_)
                    · exact kb_nsame c52 kc_m1 kc_m1
                    · refine lv_iconst (v := 0) hx hb dX4_readPlain_172 (by decide) ?_
                      exact kI_ret (v := 0) hx hb hr hlocks (by decide +kernel) hK hS dX4_readPlain_173 (f26, a27, g28) hP hD ⟨(kb_w kc_0 (by decide) (by decide)), hI, hG, hE, hk0, ⟨ik30, 0, (by show (f26 1604).toInt = ((ik30 : Nat) : Int); rw [egv31.symm]; exact hg32), (Nat.le_trans (Nat.le_trans (Nat.le_add_right _ _) hvlp6_1.1) hlek30), hNk30, Or.inr ⟨rfl, xc _ (pi_5n hn8 (pi_10n (fun q => c22 (hw18.2.trans q)) hGk30 (fun q => q.elim (fun q => c41 (hw37.2.trans q)) (fun q => q.elim (fun q => c46 (hw42.2.trans q)) (fun q => c51 (hw47.2.trans q))))))⟩⟩⟩
                  · have b53 : kb 3061 v48 3061 := kb_eq c51 kc_3061
                    refine lv_bipush (v := 12) hx hb dX4_readPlain_160 (by decide) ?_
                    refine lv_goto (tgt := 166) hx hb dX4_readPlain_162 (by decide) ?_
                    refine lv_istore_n (lv' := [(3, .int 12), (2, .int y4), (0, .ref (r 50)), (1, .int dp)]) hx hb dX4_readPlain_166 rfl hl (by decide) rfl (fun ls hl => ?_)
                    refine lv_iload_n hx hb dX4_readPlain_167 rfl (lv_at hl 0 rfl) ?_
                    refine lv_iconst (v := (-1)) hx hb dX4_readPlain_168 (by decide) ?_
                    refine lv_icmp_ne (tgt := 174) hx hb dX4_readPlain_169 (by decide) (fun c54 => ?_) (fun c54 => ?_)
                    · refine lv_aload_n hx hb dX4_readPlain_174 rfl (lv_at hl 2 rfl) ?_
                      refine lv_dup hx hb dX4_readPlain_175 rfl ?_
                      have hlt55 : ik30 < N := xQ_lt hk0 (ne_4000 (hw47.2.symm.trans c51) (by decide +kernel))
                      have b56 : kb 0 gv31 399 := kb_pos1 hlt55 hN4 hg32
                      refine va_get (D := D) (ci := 4) (v := .int (f26 1604)) (C := RX4) (T := TX4) (N := 7) hx hb hg inC4 hown hK hP 50 rfl rfl 4 (by decide) (hg _ wt2_69) (fun _ h9 => h9) rfl dX4_readPlain_176 ?_
                      refine k_top (z := gv31) egv31.symm ?_
                      refine lv_iconst (v := 1) hx hb dX4_readPlain_179 (by decide) ?_
                      refine lv_iadd hx hb dX4_readPlain_180 ?_
                      refine lv_topi (fun t57 et57 => ?_)
                      have b58 : kb 1 t57 400 := kb_eq et57 (kb_add b56 kc_1 (by decide) (by decide))
                      have qt57 : t57.toInt = gv31.toInt + 1 := by rw [et57]; exact kt_addc b56 kc_1 (by decide) (by decide)
                      have hg59 : t57.toInt = ((ik30 + 1 : Nat) : Int) := by rw [qt57, hg32]; omega
                      refine va_put (D := D) (ci := 4) (v := .int t57) (ty := .int) (C := RX4) (T := TX4) (N := 7) hx hb hg inC4 tyX4 tyX4_ok nmX4 hown hK hP hD hS 50 rfl rfl 4 (by decide) (hg _ wt2_69) (fun _ h9 => h9) rfl (by decide +kernel) rfl rfl (Nat.le_of_ble_eq_true rfl) dX4_readPlain_181 (fun H locs hP hD hS => ?_)
                      have hP : va_P D vwCl (xX K r (upd f26 1604 t57) a27 g28 tx) H := hP
                      have hD : va_D A (xX K r (upd f26 1604 t57) a27 g28 tx) := hD
                      refine k_gen (P := fun z => va_P D vwCl (xX K r z a27 g28 tx) H ∧ va_D A (xX K r z a27 g28 tx) ∧ (xI z a27) ∧ (gOK K g28.2 tt) ∧ (xEk [12, 13, 14, 32, 38, 44, 49, 50, 832, 838, 844, 849, 850, 1603, 1606, 1632] f a g z a27 g28) ∧ (xQ z a27 N ob T pl)) (upd f26 1604 t57) ⟨hP, hD, (xI_f hI (fI_st hI.1 1604 (kb_any _) (by decide) (by decide))), hG, (xEk_f hE (by decide)), (xQ_f hk0 (by decide) (by decide))⟩ (fun f_60 ef_60 hq => ?_)
                      obtain ⟨hP, hD, hI, hG, hE, hk0⟩ := hq
                      refine lv_aload_n hx hb dX4_readPlain_184 rfl (lv_at hl 2 rfl) ?_
                      refine lv_iload_n hx hb dX4_readPlain_185 rfl (lv_at hl 3 rfl) ?_
                      refine kIG.callW (As := [.int dp]) (rest := []) ⟨hx, hb, hml, hown, hg⟩ (hsum l r f_60 a27 g28 tx tt hT hI hG dp bdp N (ik30 + 1) (nk30) ob T pl hk0 (by rw [(show f_60 1604 = t57 from by rw [← ef_60]; rfl)]; exact hg59) hlt55 ⟨(by rw [((show f_60 1605 = f26 1605 from by rw [← ef_60]; rfl).trans ez34.symm)]; exact hzz34), h3k30.2⟩ hp4) (cwV 1 hg (kgV wt4_6 wt4_8 wp1_13 wt1_7 wt4_9) rfl rfl rfl (by decide +kernel) ⟨by dsimp only [rmD]; omega, by dsimp only [rmD]; omega⟩) hV hK hP hD hS hA (50) 4 rfl rfl rfl hl.1 rfl (Nat.le_of_ble_eq_true rfl) dX4_readPlain_186 ⟨Nat.le_refl _, Nat.le_refl _⟩ (fun v62 u63 H locs hw61 hP hD hS => ?_)
                      obtain ⟨f64, a65, g66⟩ := u63
                      have hP : va_P D vwCl (xX K r f64 a65 g66 tx) H := hP
                      have hD : va_D A (xX K r f64 a65 g66 tx) := hD
                      have hI : xI f64 a65 := hw61.2.1
                      have hG : gOK K g66.2 tt := hw61.2.2.1
                      have eE67 : xEk [12, 13, 14, 32, 38, 44, 49, 50, 832, 838, 844, 849, 850, 1603, 1606, 1632] f_60 a27 g28 f64 a65 g66 := hw61.2.2.2.1
                      have hE : xEk [12, 13, 14, 32, 38, 44, 49, 50, 832, 838, 844, 849, 850, 1603, 1606, 1632] f a g f64 a65 g66 := xEk_tr hE eE67
                      have hk0 : xQ f64 a65 N ob T pl := hw61.2.2.2.2.1
                      obtain ⟨ik68, nk68, hgk68, hlek68, hNk68, hck68⟩ := hw61.2.2.2.2.2
                      rcases hck68 with ⟨hvk68, h3k68, hltk68, hGk68⟩ | ⟨hvk68, hGk68⟩
                      · refine k_top (z := 1) hvk68 ?_
                        obtain ⟨gv69, egv69⟩ : ∃ z : Int32, z = f64 1604 := ⟨_, rfl⟩
                        have hg70 : gv69.toInt = ((ik68 : Nat) : Int) := by rw [egv69]; exact hgk68
                        have b71 : kb 0 gv69 400 := kb_pos hNk68 hN4 hg70
                        obtain ⟨z72, ez72⟩ : ∃ z : Int32, z = f64 1605 := ⟨_, rfl⟩
                        have hzz72 : z72.toInt = ((nk68 : Nat) : Int) := by rw [ez72]; exact h3k68.1
                        have b73 : kb 0 z72 50 := ⟨by omega, by have w1 := h3k68.2; omega⟩
                        refine lv_if_ne (tgt := 194) hx hb dX4_readPlain_189 (by decide) (fun c74 => ?_) (fun c74 => ?_)
                        · refine lv_aload_n hx hb dX4_readPlain_194 rfl (lv_at hl 2 rfl) ?_
                          refine va_get (D := D) (ci := 4) (v := .ref (r 51)) (C := RX4) (T := TX4) (N := 7) hx hb hg inC4 hown hK hP 50 rfl rfl 0 (by decide) (hg _ wt2_64) (fun _ h9 => h9) rfl dX4_readPlain_195 ?_
                          refine lv_iload_n hx hb dX4_readPlain_198 rfl (lv_at hl 0 rfl) ?_
                          refine lv_iconst (v := 0) hx hb dX4_readPlain_199 (by decide) ?_
                          refine kIG.callW (As := [.int 12, .int 0]) (rest := []) ⟨hx, hb, hml, hown, hg⟩ (y_emit l r f64 a65 g66 tx tt hT hI hG 12 0 (kb_w kc_12 (by decide) (by decide)) ) (cwV 2 hg (kgV wt4_14 wt4_15 wt4_16 wt1_8 wt4_17) rfl rfl rfl (by decide +kernel) ⟨by dsimp only [rmD]; omega, by dsimp only [rmD]; omega⟩) hV hK hP hD hS hA (51) 10 rfl rfl rfl hl.1 rfl (Nat.le_of_ble_eq_true rfl) dX4_readPlain_200 ⟨Nat.le_refl _, Nat.le_refl _⟩ (fun v76 u77 H locs hw75 hP hD hS => ?_)
                          obtain ⟨f78, a79, g80⟩ := u77
                          have hP : va_P D vwCl (xX K r f78 a79 g80 tx) H := hP
                          have hD : va_D A (xX K r f78 a79 g80 tx) := hD
                          have hI : xI f78 a79 := hw75.2.1
                          have hG : gOK K g80.2 tt := hw75.2.2.1
                          have eE81 : xEk [12, 13, 14, 32, 38, 44, 49, 50, 832, 838, 844, 849, 850, 1603, 1604, 1605, 1606, 1632] f64 a65 g66 f78 a79 g80 := hw75.2.2.2.1
                          have hE : xEk [12, 13, 14, 32, 38, 44, 49, 50, 832, 838, 844, 849, 850, 1603, 1606, 1632] f a g f78 a79 g80 := xEk_tr hE (xEk_w (by decide) eE81)
                          have hk0 : xQ f78 a79 N ob T pl := xQ_c hk0 (eE81.1 1603 rfl) (eE81.1 1606 rfl) hw75.2.2.2.2
                          refine lv_pop hx hb dX4_readPlain_203 rfl ?_
                          refine lv_aload_n hx hb dX4_readPlain_204 rfl (lv_at hl 2 rfl) ?_
                          refine lv_iload_n hx hb dX4_readPlain_205 rfl (lv_at hl 1 rfl) ?_
                          refine lv_if_eq (tgt := 213) hx hb dX4_readPlain_206 (by decide) (fun c82 => ?_) (fun c82 => ?_)
                          · have b83 : kb 0 y4 0 := kb_eq c82 kc_0
                            refine lv_iconst (v := (-1)) hx hb dX4_readPlain_213 (by decide) ?_
                            refine kVG.callW (As := [.int (-1)]) (rest := []) ⟨hx, hb, hml, hown, hg⟩ (y_emitIfAny l r f78 a79 g80 tx tt hT hI hG (-1) (kb_w kc_m1 (by decide) (by decide)) ) (cwV 1 hg (kgV wt4_26 wt4_28 wp2_1 wt1_7 wt4_29) rfl rfl rfl (by decide +kernel) ⟨by dsimp only [rmD]; omega, by dsimp only [rmD]; omega⟩) hV hK hP hD hS hA (50) 4 rfl rfl rfl hl.1 rfl (Nat.le_of_ble_eq_true rfl) dX4_readPlain_214 ⟨Nat.le_refl _, Nat.le_refl _⟩ (fun u86 H locs hw84 hP hD hS => ?_)
                            obtain ⟨f87, a88, g89⟩ := u86
                            have hP : va_P D vwCl (xX K r f87 a88 g89 tx) H := hP
                            have hD : va_D A (xX K r f87 a88 g89 tx) := hD
                            have hI : xI f87 a88 := hw84.1
                            have hG : gOK K g89.2 tt := hw84.2.1
                            have eE90 : xEk [12, 13, 14, 32, 38, 44, 49, 50, 832, 838, 844, 849, 850, 1603, 1604, 1605, 1606, 1632] f78 a79 g80 f87 a88 g89 := hw84.2.2.1
                            have hE : xEk [12, 13, 14, 32, 38, 44, 49, 50, 832, 838, 844, 849, 850, 1603, 1606, 1632] f a g f87 a88 g89 := xEk_tr hE (xEk_w (by decide) eE90)
                            have hk0 : xQ f87 a88 N ob T pl := xQ_c hk0 (eE90.1 1603 rfl) (eE90.1 1606 rfl) hw84.2.2.2
                            refine lv_iconst (v := 1) hx hb dX4_readPlain_217 (by decide) ?_
                            exact kI_ret (v := 1) hx hb hr hlocks (by decide +kernel) hK hS dX4_readPlain_218 (f87, a88, g89) hP hD ⟨(kb_w kc_1 (by decide) (by decide)), hI, hG, hE, hk0, ⟨ik68, nk68, (by show (f87 1604).toInt = ((ik68 : Nat) : Int); rw [((eE90.1 1604 rfl).trans ((eE81.1 1604 rfl).trans egv69.symm))]; exact hg70), (Nat.le_trans (Nat.le_succ_of_le (Nat.le_trans (Nat.le_trans (Nat.le_add_right _ _) hvlp6_1.1) hlek30)) hlek68), hNk68, Or.inl ⟨rfl, ⟨(by show (f87 1605).toInt = ((nk68 : Nat) : Int); rw [((eE90.1 1605 rfl).trans ((eE81.1 1605 rfl).trans ez72.symm))]; exact hzz72), h3k68.2⟩, (by omega), xc _ (pi_5n hn8 (pi_10c (fun q => c22 (hw18.2.trans q)) hGk30 (Or.inr (Or.inr (hw47.2.symm.trans c51))) hGk68))⟩⟩⟩
                          · have b91 : kb 1 y4 1 := kr_nel c82 b9 kc_0 (by decide)
                            refine lv_iconst (v := 2) hx hb dX4_readPlain_209 (by decide) ?_
                            refine lv_goto (tgt := 214) hx hb dX4_readPlain_210 (by decide) ?_
                            refine kVG.callW (As := [.int 2]) (rest := []) ⟨hx, hb, hml, hown, hg⟩ (y_emitIfAny l r f78 a79 g80 tx tt hT hI hG 2 (kb_w kc_2 (by decide) (by decide)) ) (cwV 1 hg (kgV wt4_26 wt4_28 wp2_1 wt1_7 wt4_29) rfl rfl rfl (by decide +kernel) ⟨by dsimp only [rmD]; omega, by dsimp only [rmD]; omega⟩) hV hK hP hD hS hA (50) 4 rfl rfl rfl hl.1 rfl (Nat.le_of_ble_eq_true rfl) dX4_readPlain_214 ⟨Nat.le_refl _, Nat.le_refl _⟩ (fun u94 H locs hw92 hP hD hS => ?_)
                            obtain ⟨f95, a96, g97⟩ := u94
                            have hP : va_P D vwCl (xX K r f95 a96 g97 tx) H := hP
                            have hD : va_D A (xX K r f95 a96 g97 tx) := hD
                            have hI : xI f95 a96 := hw92.1
                            have hG : gOK K g97.2 tt := hw92.2.1
                            have eE98 : xEk [12, 13, 14, 32, 38, 44, 49, 50, 832, 838, 844, 849, 850, 1603, 1604, 1605, 1606, 1632] f78 a79 g80 f95 a96 g97 := hw92.2.2.1
                            have hE : xEk [12, 13, 14, 32, 38, 44, 49, 50, 832, 838, 844, 849, 850, 1603, 1606, 1632] f a g f95 a96 g97 := xEk_tr hE (xEk_w (by decide) eE98)
                            have hk0 : xQ f95 a96 N ob T pl := xQ_c hk0 (eE98.1 1603 rfl) (eE98.1 1606 rfl) hw92.2.2.2
                            refine lv_iconst (v := 1) hx hb dX4_readPlain_217 (by decide) ?_
                            exact kI_ret (v := 1) hx hb hr hlocks (by decide +kernel) hK hS dX4_readPlain_218 (f95, a96, g97) hP hD ⟨(kb_w kc_1 (by decide) (by decide)), hI, hG, hE, hk0, ⟨ik68, nk68, (by show (f95 1604).toInt = ((ik68 : Nat) : Int); rw [((eE98.1 1604 rfl).trans ((eE81.1 1604 rfl).trans egv69.symm))]; exact hg70), (Nat.le_trans (Nat.le_succ_of_le (Nat.le_trans (Nat.le_trans (Nat.le_add_right _ _) hvlp6_1.1) hlek30)) hlek68), hNk68, Or.inl ⟨rfl, ⟨(by show (f95 1605).toInt = ((nk68 : Nat) : Int); rw [((eE98.1 1605 rfl).trans ((eE81.1 1605 rfl).trans ez72.symm))]; exact hzz72), h3k68.2⟩, (by omega), xc _ (pi_5n hn8 (pi_10c (fun q => c22 (hw18.2.trans q)) hGk30 (Or.inr (Or.inr (hw47.2.symm.trans c51))) hGk68))⟩⟩⟩
                        · exact kb_dj c74 kc_1 kc_0 (by decide)
                      · refine k_top (z := 0) hvk68 ?_
                        obtain ⟨gv99, egv99⟩ : ∃ z : Int32, z = f64 1604 := ⟨_, rfl⟩
                        have hg100 : gv99.toInt = ((ik68 : Nat) : Int) := by rw [egv99]; exact hgk68
                        have b101 : kb 0 gv99 400 := kb_pos hNk68 hN4 hg100
                        refine lv_if_ne (tgt := 194) hx hb dX4_readPlain_189 (by decide) (fun c102 => ?_) (fun c102 => ?_)
                        · exact kb_nsame c102 kc_0 kc_0
                        · refine lv_iconst (v := 0) hx hb dX4_readPlain_192 (by decide) ?_
                          exact kI_ret (v := 0) hx hb hr hlocks (by decide +kernel) hK hS dX4_readPlain_193 (f64, a65, g66) hP hD ⟨(kb_w kc_0 (by decide) (by decide)), hI, hG, hE, hk0, ⟨ik68, 0, (by show (f64 1604).toInt = ((ik68 : Nat) : Int); rw [egv99.symm]; exact hg100), (Nat.le_trans (Nat.le_succ_of_le (Nat.le_trans (Nat.le_trans (Nat.le_add_right _ _) hvlp6_1.1) hlek30)) hlek68), hNk68, Or.inr ⟨rfl, xc _ (pi_5n hn8 (pi_10c (fun q => c22 (hw18.2.trans q)) hGk30 (Or.inr (Or.inr (hw47.2.symm.trans c51))) hGk68))⟩⟩⟩
                    · exact kb_dj c54 kc_12 kc_m1 (by decide)
                · have b103 : kb 3062 v43 3062 := kb_eq c46 kc_3062
                  refine lv_bipush (v := 11) hx hb dX4_readPlain_145 (by decide) ?_
                  refine lv_goto (tgt := 166) hx hb dX4_readPlain_147 (by decide) ?_
                  refine lv_istore_n (lv' := [(3, .int 11), (2, .int y4), (0, .ref (r 50)), (1, .int dp)]) hx hb dX4_readPlain_166 rfl hl (by decide) rfl (fun ls hl => ?_)
                  refine lv_iload_n hx hb dX4_readPlain_167 rfl (lv_at hl 0 rfl) ?_
                  refine lv_iconst (v := (-1)) hx hb dX4_readPlain_168 (by decide) ?_
                  refine lv_icmp_ne (tgt := 174) hx hb dX4_readPlain_169 (by decide) (fun c104 => ?_) (fun c104 => ?_)
                  · refine lv_aload_n hx hb dX4_readPlain_174 rfl (lv_at hl 2 rfl) ?_
                    refine lv_dup hx hb dX4_readPlain_175 rfl ?_
                    have hlt105 : ik30 < N := xQ_lt hk0 (ne_4000 (hw42.2.symm.trans c46) (by decide +kernel))
                    have b106 : kb 0 gv31 399 := kb_pos1 hlt105 hN4 hg32
                    refine va_get (D := D) (ci := 4) (v := .int (f26 1604)) (C := RX4) (T := TX4) (N := 7) hx hb hg inC4 hown hK hP 50 rfl rfl 4 (by decide) (hg _ wt2_69) (fun _ h9 => h9) rfl dX4_readPlain_176 ?_
                    refine k_top (z := gv31) egv31.symm ?_
                    refine lv_iconst (v := 1) hx hb dX4_readPlain_179 (by decide) ?_
                    refine lv_iadd hx hb dX4_readPlain_180 ?_
                    refine lv_topi (fun t107 et107 => ?_)
                    have b108 : kb 1 t107 400 := kb_eq et107 (kb_add b106 kc_1 (by decide) (by decide))
                    have qt107 : t107.toInt = gv31.toInt + 1 := by rw [et107]; exact kt_addc b106 kc_1 (by decide) (by decide)
                    have hg109 : t107.toInt = ((ik30 + 1 : Nat) : Int) := by rw [qt107, hg32]; omega
                    refine va_put (D := D) (ci := 4) (v := .int t107) (ty := .int) (C := RX4) (T := TX4) (N := 7) hx hb hg inC4 tyX4 tyX4_ok nmX4 hown hK hP hD hS 50 rfl rfl 4 (by decide) (hg _ wt2_69) (fun _ h9 => h9) rfl (by decide +kernel) rfl rfl (Nat.le_of_ble_eq_true rfl) dX4_readPlain_181 (fun H locs hP hD hS => ?_)
                    have hP : va_P D vwCl (xX K r (upd f26 1604 t107) a27 g28 tx) H := hP
                    have hD : va_D A (xX K r (upd f26 1604 t107) a27 g28 tx) := hD
                    refine k_gen (P := fun z => va_P D vwCl (xX K r z a27 g28 tx) H ∧ va_D A (xX K r z a27 g28 tx) ∧ (xI z a27) ∧ (gOK K g28.2 tt) ∧ (xEk [12, 13, 14, 32, 38, 44, 49, 50, 832, 838, 844, 849, 850, 1603, 1606, 1632] f a g z a27 g28) ∧ (xQ z a27 N ob T pl)) (upd f26 1604 t107) ⟨hP, hD, (xI_f hI (fI_st hI.1 1604 (kb_any _) (by decide) (by decide))), hG, (xEk_f hE (by decide)), (xQ_f hk0 (by decide) (by decide))⟩ (fun f_110 ef_110 hq => ?_)
                    obtain ⟨hP, hD, hI, hG, hE, hk0⟩ := hq
                    refine lv_aload_n hx hb dX4_readPlain_184 rfl (lv_at hl 2 rfl) ?_
                    refine lv_iload_n hx hb dX4_readPlain_185 rfl (lv_at hl 3 rfl) ?_
                    refine kIG.callW (As := [.int dp]) (rest := []) ⟨hx, hb, hml, hown, hg⟩ (hsum l r f_110 a27 g28 tx tt hT hI hG dp bdp N (ik30 + 1) (nk30) ob T pl hk0 (by rw [(show f_110 1604 = t107 from by rw [← ef_110]; rfl)]; exact hg109) hlt105 ⟨(by rw [((show f_110 1605 = f26 1605 from by rw [← ef_110]; rfl).trans ez34.symm)]; exact hzz34), h3k30.2⟩ hp4) (cwV 1 hg (kgV wt4_6 wt4_8 wp1_13 wt1_7 wt4_9) rfl rfl rfl (by decide +kernel) ⟨by dsimp only [rmD]; omega, by dsimp only [rmD]; omega⟩) hV hK hP hD hS hA (50) 4 rfl rfl rfl hl.1 rfl (Nat.le_of_ble_eq_true rfl) dX4_readPlain_186 ⟨Nat.le_refl _, Nat.le_refl _⟩ (fun v112 u113 H locs hw111 hP hD hS => ?_)
                    obtain ⟨f114, a115, g116⟩ := u113
                    have hP : va_P D vwCl (xX K r f114 a115 g116 tx) H := hP
                    have hD : va_D A (xX K r f114 a115 g116 tx) := hD
                    have hI : xI f114 a115 := hw111.2.1
                    have hG : gOK K g116.2 tt := hw111.2.2.1
                    have eE117 : xEk [12, 13, 14, 32, 38, 44, 49, 50, 832, 838, 844, 849, 850, 1603, 1606, 1632] f_110 a27 g28 f114 a115 g116 := hw111.2.2.2.1
                    have hE : xEk [12, 13, 14, 32, 38, 44, 49, 50, 832, 838, 844, 849, 850, 1603, 1606, 1632] f a g f114 a115 g116 := xEk_tr hE eE117
                    have hk0 : xQ f114 a115 N ob T pl := hw111.2.2.2.2.1
                    obtain ⟨ik118, nk118, hgk118, hlek118, hNk118, hck118⟩ := hw111.2.2.2.2.2
                    rcases hck118 with ⟨hvk118, h3k118, hltk118, hGk118⟩ | ⟨hvk118, hGk118⟩
                    · refine k_top (z := 1) hvk118 ?_
                      obtain ⟨gv119, egv119⟩ : ∃ z : Int32, z = f114 1604 := ⟨_, rfl⟩
                      have hg120 : gv119.toInt = ((ik118 : Nat) : Int) := by rw [egv119]; exact hgk118
                      have b121 : kb 0 gv119 400 := kb_pos hNk118 hN4 hg120
                      obtain ⟨z122, ez122⟩ : ∃ z : Int32, z = f114 1605 := ⟨_, rfl⟩
                      have hzz122 : z122.toInt = ((nk118 : Nat) : Int) := by rw [ez122]; exact h3k118.1
                      have b123 : kb 0 z122 50 := ⟨by omega, by have w1 := h3k118.2; omega⟩
                      refine lv_if_ne (tgt := 194) hx hb dX4_readPlain_189 (by decide) (fun c124 => ?_) (fun c124 => ?_)
                      · refine lv_aload_n hx hb dX4_readPlain_194 rfl (lv_at hl 2 rfl) ?_
                        refine va_get (D := D) (ci := 4) (v := .ref (r 51)) (C := RX4) (T := TX4) (N := 7) hx hb hg inC4 hown hK hP 50 rfl rfl 0 (by decide) (hg _ wt2_64) (fun _ h9 => h9) rfl dX4_readPlain_195 ?_
                        refine lv_iload_n hx hb dX4_readPlain_198 rfl (lv_at hl 0 rfl) ?_
                        refine lv_iconst (v := 0) hx hb dX4_readPlain_199 (by decide) ?_
                        refine kIG.callW (As := [.int 11, .int 0]) (rest := []) ⟨hx, hb, hml, hown, hg⟩ (y_emit l r f114 a115 g116 tx tt hT hI hG 11 0 (kb_w kc_11 (by decide) (by decide)) ) (cwV 2 hg (kgV wt4_14 wt4_15 wt4_16 wt1_8 wt4_17) rfl rfl rfl (by decide +kernel) ⟨by dsimp only [rmD]; omega, by dsimp only [rmD]; omega⟩) hV hK hP hD hS hA (51) 10 rfl rfl rfl hl.1 rfl (Nat.le_of_ble_eq_true rfl) dX4_readPlain_200 ⟨Nat.le_refl _, Nat.le_refl _⟩ (fun v126 u127 H locs hw125 hP hD hS => ?_)
                        obtain ⟨f128, a129, g130⟩ := u127
                        have hP : va_P D vwCl (xX K r f128 a129 g130 tx) H := hP
                        have hD : va_D A (xX K r f128 a129 g130 tx) := hD
                        have hI : xI f128 a129 := hw125.2.1
                        have hG : gOK K g130.2 tt := hw125.2.2.1
                        have eE131 : xEk [12, 13, 14, 32, 38, 44, 49, 50, 832, 838, 844, 849, 850, 1603, 1604, 1605, 1606, 1632] f114 a115 g116 f128 a129 g130 := hw125.2.2.2.1
                        have hE : xEk [12, 13, 14, 32, 38, 44, 49, 50, 832, 838, 844, 849, 850, 1603, 1606, 1632] f a g f128 a129 g130 := xEk_tr hE (xEk_w (by decide) eE131)
                        have hk0 : xQ f128 a129 N ob T pl := xQ_c hk0 (eE131.1 1603 rfl) (eE131.1 1606 rfl) hw125.2.2.2.2
                        refine lv_pop hx hb dX4_readPlain_203 rfl ?_
                        refine lv_aload_n hx hb dX4_readPlain_204 rfl (lv_at hl 2 rfl) ?_
                        refine lv_iload_n hx hb dX4_readPlain_205 rfl (lv_at hl 1 rfl) ?_
                        refine lv_if_eq (tgt := 213) hx hb dX4_readPlain_206 (by decide) (fun c132 => ?_) (fun c132 => ?_)
                        · have b133 : kb 0 y4 0 := kb_eq c132 kc_0
                          refine lv_iconst (v := (-1)) hx hb dX4_readPlain_213 (by decide) ?_
                          refine kVG.callW (As := [.int (-1)]) (rest := []) ⟨hx, hb, hml, hown, hg⟩ (y_emitIfAny l r f128 a129 g130 tx tt hT hI hG (-1) (kb_w kc_m1 (by decide) (by decide)) ) (cwV 1 hg (kgV wt4_26 wt4_28 wp2_1 wt1_7 wt4_29) rfl rfl rfl (by decide +kernel) ⟨by dsimp only [rmD]; omega, by dsimp only [rmD]; omega⟩) hV hK hP hD hS hA (50) 4 rfl rfl rfl hl.1 rfl (Nat.le_of_ble_eq_true rfl) dX4_readPlain_214 ⟨Nat.le_refl _, Nat.le_refl _⟩ (fun u136 H locs hw134 hP hD hS => ?_)
                          obtain ⟨f137, a138, g139⟩ := u136
                          have hP : va_P D vwCl (xX K r f137 a138 g139 tx) H := hP
                          have hD : va_D A (xX K r f137 a138 g139 tx) := hD
                          have hI : xI f137 a138 := hw134.1
                          have hG : gOK K g139.2 tt := hw134.2.1
                          have eE140 : xEk [12, 13, 14, 32, 38, 44, 49, 50, 832, 838, 844, 849, 850, 1603, 1604, 1605, 1606, 1632] f128 a129 g130 f137 a138 g139 := hw134.2.2.1
                          have hE : xEk [12, 13, 14, 32, 38, 44, 49, 50, 832, 838, 844, 849, 850, 1603, 1606, 1632] f a g f137 a138 g139 := xEk_tr hE (xEk_w (by decide) eE140)
                          have hk0 : xQ f137 a138 N ob T pl := xQ_c hk0 (eE140.1 1603 rfl) (eE140.1 1606 rfl) hw134.2.2.2
                          refine lv_iconst (v := 1) hx hb dX4_readPlain_217 (by decide) ?_
                          exact kI_ret (v := 1) hx hb hr hlocks (by decide +kernel) hK hS dX4_readPlain_218 (f137, a138, g139) hP hD ⟨(kb_w kc_1 (by decide) (by decide)), hI, hG, hE, hk0, ⟨ik118, nk118, (by show (f137 1604).toInt = ((ik118 : Nat) : Int); rw [((eE140.1 1604 rfl).trans ((eE131.1 1604 rfl).trans egv119.symm))]; exact hg120), (Nat.le_trans (Nat.le_succ_of_le (Nat.le_trans (Nat.le_trans (Nat.le_add_right _ _) hvlp6_1.1) hlek30)) hlek118), hNk118, Or.inl ⟨rfl, ⟨(by show (f137 1605).toInt = ((nk118 : Nat) : Int); rw [((eE140.1 1605 rfl).trans ((eE131.1 1605 rfl).trans ez122.symm))]; exact hzz122), h3k118.2⟩, (by omega), xc _ (pi_5n hn8 (pi_10c (fun q => c22 (hw18.2.trans q)) hGk30 (Or.inr (Or.inl (hw42.2.symm.trans c46))) hGk118))⟩⟩⟩
                        · have b141 : kb 1 y4 1 := kr_nel c132 b9 kc_0 (by decide)
                          refine lv_iconst (v := 2) hx hb dX4_readPlain_209 (by decide) ?_
                          refine lv_goto (tgt := 214) hx hb dX4_readPlain_210 (by decide) ?_
                          refine kVG.callW (As := [.int 2]) (rest := []) ⟨hx, hb, hml, hown, hg⟩ (y_emitIfAny l r f128 a129 g130 tx tt hT hI hG 2 (kb_w kc_2 (by decide) (by decide)) ) (cwV 1 hg (kgV wt4_26 wt4_28 wp2_1 wt1_7 wt4_29) rfl rfl rfl (by decide +kernel) ⟨by dsimp only [rmD]; omega, by dsimp only [rmD]; omega⟩) hV hK hP hD hS hA (50) 4 rfl rfl rfl hl.1 rfl (Nat.le_of_ble_eq_true rfl) dX4_readPlain_214 ⟨Nat.le_refl _, Nat.le_refl _⟩ (fun u144 H locs hw142 hP hD hS => ?_)
                          obtain ⟨f145, a146, g147⟩ := u144
                          have hP : va_P D vwCl (xX K r f145 a146 g147 tx) H := hP
                          have hD : va_D A (xX K r f145 a146 g147 tx) := hD
                          have hI : xI f145 a146 := hw142.1
                          have hG : gOK K g147.2 tt := hw142.2.1
                          have eE148 : xEk [12, 13, 14, 32, 38, 44, 49, 50, 832, 838, 844, 849, 850, 1603, 1604, 1605, 1606, 1632] f128 a129 g130 f145 a146 g147 := hw142.2.2.1
                          have hE : xEk [12, 13, 14, 32, 38, 44, 49, 50, 832, 838, 844, 849, 850, 1603, 1606, 1632] f a g f145 a146 g147 := xEk_tr hE (xEk_w (by decide) eE148)
                          have hk0 : xQ f145 a146 N ob T pl := xQ_c hk0 (eE148.1 1603 rfl) (eE148.1 1606 rfl) hw142.2.2.2
                          refine lv_iconst (v := 1) hx hb dX4_readPlain_217 (by decide) ?_
                          exact kI_ret (v := 1) hx hb hr hlocks (by decide +kernel) hK hS dX4_readPlain_218 (f145, a146, g147) hP hD ⟨(kb_w kc_1 (by decide) (by decide)), hI, hG, hE, hk0, ⟨ik118, nk118, (by show (f145 1604).toInt = ((ik118 : Nat) : Int); rw [((eE148.1 1604 rfl).trans ((eE131.1 1604 rfl).trans egv119.symm))]; exact hg120), (Nat.le_trans (Nat.le_succ_of_le (Nat.le_trans (Nat.le_trans (Nat.le_add_right _ _) hvlp6_1.1) hlek30)) hlek118), hNk118, Or.inl ⟨rfl, ⟨(by show (f145 1605).toInt = ((nk118 : Nat) : Int); rw [((eE148.1 1605 rfl).trans ((eE131.1 1605 rfl).trans ez122.symm))]; exact hzz122), h3k118.2⟩, (by omega), xc _ (pi_5n hn8 (pi_10c (fun q => c22 (hw18.2.trans q)) hGk30 (Or.inr (Or.inl (hw42.2.symm.trans c46))) hGk118))⟩⟩⟩
                      · exact kb_dj c124 kc_1 kc_0 (by decide)
                    · refine k_top (z := 0) hvk118 ?_
                      obtain ⟨gv149, egv149⟩ : ∃ z : Int32, z = f114 1604 := ⟨_, rfl⟩
                      have hg150 : gv149.toInt = ((ik118 : Nat) : Int) := by rw [egv149]; exact hgk118
                      have b151 : kb 0 gv149 400 := kb_pos hNk118 hN4 hg150
                      refine lv_if_ne (tgt := 194) hx hb dX4_readPlain_189 (by decide) (fun c152 => ?_) (fun c152 => ?_)
                      · exact kb_nsame c152 kc_0 kc_0
                      · refine lv_iconst (v := 0) hx hb dX4_readPlain_192 (by decide) ?_
                        exact kI_ret (v := 0) hx hb hr hlocks (by decide +kernel) hK hS dX4_readPlain_193 (f114, a115, g116) hP hD ⟨(kb_w kc_0 (by decide) (by decide)), hI, hG, hE, hk0, ⟨ik118, 0, (by show (f114 1604).toInt = ((ik118 : Nat) : Int); rw [egv149.symm]; exact hg150), (Nat.le_trans (Nat.le_succ_of_le (Nat.le_trans (Nat.le_trans (Nat.le_add_right _ _) hvlp6_1.1) hlek30)) hlek118), hNk118, Or.inr ⟨rfl, xc _ (pi_5n hn8 (pi_10c (fun q => c22 (hw18.2.trans q)) hGk30 (Or.inr (Or.inl (hw42.2.symm.trans c46))) hGk118))⟩⟩⟩
                  · exact kb_dj c104 kc_11 kc_m1 (by decide)
              · have b153 : kb 3060 v38 3060 := kb_eq c41 kc_3060
                refine lv_bipush (v := 10) hx hb dX4_readPlain_130 (by decide) ?_
                refine lv_goto (tgt := 166) hx hb dX4_readPlain_132 (by decide) ?_
                refine lv_istore_n (lv' := [(3, .int 10), (2, .int y4), (0, .ref (r 50)), (1, .int dp)]) hx hb dX4_readPlain_166 rfl hl (by decide) rfl (fun ls hl => ?_)
                refine lv_iload_n hx hb dX4_readPlain_167 rfl (lv_at hl 0 rfl) ?_
                refine lv_iconst (v := (-1)) hx hb dX4_readPlain_168 (by decide) ?_
                refine lv_icmp_ne (tgt := 174) hx hb dX4_readPlain_169 (by decide) (fun c154 => ?_) (fun c154 => ?_)
                · refine lv_aload_n hx hb dX4_readPlain_174 rfl (lv_at hl 2 rfl) ?_
                  refine lv_dup hx hb dX4_readPlain_175 rfl ?_
                  have hlt155 : ik30 < N := xQ_lt hk0 (ne_4000 (hw37.2.symm.trans c41) (by decide +kernel))
                  have b156 : kb 0 gv31 399 := kb_pos1 hlt155 hN4 hg32
                  refine va_get (D := D) (ci := 4) (v := .int (f26 1604)) (C := RX4) (T := TX4) (N := 7) hx hb hg inC4 hown hK hP 50 rfl rfl 4 (by decide) (hg _ wt2_69) (fun _ h9 => h9) rfl dX4_readPlain_176 ?_
                  refine k_top (z := gv31) egv31.symm ?_
                  refine lv_iconst (v := 1) hx hb dX4_readPlain_179 (by decide) ?_
                  refine lv_iadd hx hb dX4_readPlain_180 ?_
                  refine lv_topi (fun t157 et157 => ?_)
                  have b158 : kb 1 t157 400 := kb_eq et157 (kb_add b156 kc_1 (by decide) (by decide))
                  have qt157 : t157.toInt = gv31.toInt + 1 := by rw [et157]; exact kt_addc b156 kc_1 (by decide) (by decide)
                  have hg159 : t157.toInt = ((ik30 + 1 : Nat) : Int) := by rw [qt157, hg32]; omega
                  refine va_put (D := D) (ci := 4) (v := .int t157) (ty := .int) (C := RX4) (T := TX4) (N := 7) hx hb hg inC4 tyX4 tyX4_ok nmX4 hown hK hP hD hS 50 rfl rfl 4 (by decide) (hg _ wt2_69) (fun _ h9 => h9) rfl (by decide +kernel) rfl rfl (Nat.le_of_ble_eq_true rfl) dX4_readPlain_181 (fun H locs hP hD hS => ?_)
                  have hP : va_P D vwCl (xX K r (upd f26 1604 t157) a27 g28 tx) H := hP
                  have hD : va_D A (xX K r (upd f26 1604 t157) a27 g28 tx) := hD
                  refine k_gen (P := fun z => va_P D vwCl (xX K r z a27 g28 tx) H ∧ va_D A (xX K r z a27 g28 tx) ∧ (xI z a27) ∧ (gOK K g28.2 tt) ∧ (xEk [12, 13, 14, 32, 38, 44, 49, 50, 832, 838, 844, 849, 850, 1603, 1606, 1632] f a g z a27 g28) ∧ (xQ z a27 N ob T pl)) (upd f26 1604 t157) ⟨hP, hD, (xI_f hI (fI_st hI.1 1604 (kb_any _) (by decide) (by decide))), hG, (xEk_f hE (by decide)), (xQ_f hk0 (by decide) (by decide))⟩ (fun f_160 ef_160 hq => ?_)
                  obtain ⟨hP, hD, hI, hG, hE, hk0⟩ := hq
                  refine lv_aload_n hx hb dX4_readPlain_184 rfl (lv_at hl 2 rfl) ?_
                  refine lv_iload_n hx hb dX4_readPlain_185 rfl (lv_at hl 3 rfl) ?_
                  refine kIG.callW (As := [.int dp]) (rest := []) ⟨hx, hb, hml, hown, hg⟩ (hsum l r f_160 a27 g28 tx tt hT hI hG dp bdp N (ik30 + 1) (nk30) ob T pl hk0 (by rw [(show f_160 1604 = t157 from by rw [← ef_160]; rfl)]; exact hg159) hlt155 ⟨(by rw [((show f_160 1605 = f26 1605 from by rw [← ef_160]; rfl).trans ez34.symm)]; exact hzz34), h3k30.2⟩ hp4) (cwV 1 hg (kgV wt4_6 wt4_8 wp1_13 wt1_7 wt4_9) rfl rfl rfl (by decide +kernel) ⟨by dsimp only [rmD]; omega, by dsimp only [rmD]; omega⟩) hV hK hP hD hS hA (50) 4 rfl rfl rfl hl.1 rfl (Nat.le_of_ble_eq_true rfl) dX4_readPlain_186 ⟨Nat.le_refl _, Nat.le_refl _⟩ (fun v162 u163 H locs hw161 hP hD hS => ?_)
                  obtain ⟨f164, a165, g166⟩ := u163
                  have hP : va_P D vwCl (xX K r f164 a165 g166 tx) H := hP
                  have hD : va_D A (xX K r f164 a165 g166 tx) := hD
                  have hI : xI f164 a165 := hw161.2.1
                  have hG : gOK K g166.2 tt := hw161.2.2.1
                  have eE167 : xEk [12, 13, 14, 32, 38, 44, 49, 50, 832, 838, 844, 849, 850, 1603, 1606, 1632] f_160 a27 g28 f164 a165 g166 := hw161.2.2.2.1
                  have hE : xEk [12, 13, 14, 32, 38, 44, 49, 50, 832, 838, 844, 849, 850, 1603, 1606, 1632] f a g f164 a165 g166 := xEk_tr hE eE167
                  have hk0 : xQ f164 a165 N ob T pl := hw161.2.2.2.2.1
                  obtain ⟨ik168, nk168, hgk168, hlek168, hNk168, hck168⟩ := hw161.2.2.2.2.2
                  rcases hck168 with ⟨hvk168, h3k168, hltk168, hGk168⟩ | ⟨hvk168, hGk168⟩
                  · refine k_top (z := 1) hvk168 ?_
                    obtain ⟨gv169, egv169⟩ : ∃ z : Int32, z = f164 1604 := ⟨_, rfl⟩
                    have hg170 : gv169.toInt = ((ik168 : Nat) : Int) := by rw [egv169]; exact hgk168
                    have b171 : kb 0 gv169 400 := kb_pos hNk168 hN4 hg170
                    obtain ⟨z172, ez172⟩ : ∃ z : Int32, z = f164 1605 := ⟨_, rfl⟩
                    have hzz172 : z172.toInt = ((nk168 : Nat) : Int) := by rw [ez172]; exact h3k168.1
                    have b173 : kb 0 z172 50 := ⟨by omega, by have w1 := h3k168.2; omega⟩
                    refine lv_if_ne (tgt := 194) hx hb dX4_readPlain_189 (by decide) (fun c174 => ?_) (fun c174 => ?_)
                    · refine lv_aload_n hx hb dX4_readPlain_194 rfl (lv_at hl 2 rfl) ?_
                      refine va_get (D := D) (ci := 4) (v := .ref (r 51)) (C := RX4) (T := TX4) (N := 7) hx hb hg inC4 hown hK hP 50 rfl rfl 0 (by decide) (hg _ wt2_64) (fun _ h9 => h9) rfl dX4_readPlain_195 ?_
                      refine lv_iload_n hx hb dX4_readPlain_198 rfl (lv_at hl 0 rfl) ?_
                      refine lv_iconst (v := 0) hx hb dX4_readPlain_199 (by decide) ?_
                      refine kIG.callW (As := [.int 10, .int 0]) (rest := []) ⟨hx, hb, hml, hown, hg⟩ (y_emit l r f164 a165 g166 tx tt hT hI hG 10 0 (kb_w kc_10 (by decide) (by decide)) ) (cwV 2 hg (kgV wt4_14 wt4_15 wt4_16 wt1_8 wt4_17) rfl rfl rfl (by decide +kernel) ⟨by dsimp only [rmD]; omega, by dsimp only [rmD]; omega⟩) hV hK hP hD hS hA (51) 10 rfl rfl rfl hl.1 rfl (Nat.le_of_ble_eq_true rfl) dX4_readPlain_200 ⟨Nat.le_refl _, Nat.le_refl _⟩ (fun v176 u177 H locs hw175 hP hD hS => ?_)
                      obtain ⟨f178, a179, g180⟩ := u177
                      have hP : va_P D vwCl (xX K r f178 a179 g180 tx) H := hP
                      have hD : va_D A (xX K r f178 a179 g180 tx) := hD
                      have hI : xI f178 a179 := hw175.2.1
                      have hG : gOK K g180.2 tt := hw175.2.2.1
                      have eE181 : xEk [12, 13, 14, 32, 38, 44, 49, 50, 832, 838, 844, 849, 850, 1603, 1604, 1605, 1606, 1632] f164 a165 g166 f178 a179 g180 := hw175.2.2.2.1
                      have hE : xEk [12, 13, 14, 32, 38, 44, 49, 50, 832, 838, 844, 849, 850, 1603, 1606, 1632] f a g f178 a179 g180 := xEk_tr hE (xEk_w (by decide) eE181)
                      have hk0 : xQ f178 a179 N ob T pl := xQ_c hk0 (eE181.1 1603 rfl) (eE181.1 1606 rfl) hw175.2.2.2.2
                      refine lv_pop hx hb dX4_readPlain_203 rfl ?_
                      refine lv_aload_n hx hb dX4_readPlain_204 rfl (lv_at hl 2 rfl) ?_
                      refine lv_iload_n hx hb dX4_readPlain_205 rfl (lv_at hl 1 rfl) ?_
                      refine lv_if_eq (tgt := 213) hx hb dX4_readPlain_206 (by decide) (fun c182 => ?_) (fun c182 => ?_)
                      · have b183 : kb 0 y4 0 := kb_eq c182 kc_0
                        refine lv_iconst (v := (-1)) hx hb dX4_readPlain_213 (by decide) ?_
                        refine kVG.callW (As := [.int (-1)]) (rest := []) ⟨hx, hb, hml, hown, hg⟩ (y_emitIfAny l r f178 a179 g180 tx tt hT hI hG (-1) (kb_w kc_m1 (by decide) (by decide)) ) (cwV 1 hg (kgV wt4_26 wt4_28 wp2_1 wt1_7 wt4_29) rfl rfl rfl (by decide +kernel) ⟨by dsimp only [rmD]; omega, by dsimp only [rmD]; omega⟩) hV hK hP hD hS hA (50) 4 rfl rfl rfl hl.1 rfl (Nat.le_of_ble_eq_true rfl) dX4_readPlain_214 ⟨Nat.le_refl _, Nat.le_refl _⟩ (fun u186 H locs hw184 hP hD hS => ?_)
                        obtain ⟨f187, a188, g189⟩ := u186
                        have hP : va_P D vwCl (xX K r f187 a188 g189 tx) H := hP
                        have hD : va_D A (xX K r f187 a188 g189 tx) := hD
                        have hI : xI f187 a188 := hw184.1
                        have hG : gOK K g189.2 tt := hw184.2.1
                        have eE190 : xEk [12, 13, 14, 32, 38, 44, 49, 50, 832, 838, 844, 849, 850, 1603, 1604, 1605, 1606, 1632] f178 a179 g180 f187 a188 g189 := hw184.2.2.1
                        have hE : xEk [12, 13, 14, 32, 38, 44, 49, 50, 832, 838, 844, 849, 850, 1603, 1606, 1632] f a g f187 a188 g189 := xEk_tr hE (xEk_w (by decide) eE190)
                        have hk0 : xQ f187 a188 N ob T pl := xQ_c hk0 (eE190.1 1603 rfl) (eE190.1 1606 rfl) hw184.2.2.2
                        refine lv_iconst (v := 1) hx hb dX4_readPlain_217 (by decide) ?_
                        exact kI_ret (v := 1) hx hb hr hlocks (by decide +kernel) hK hS dX4_readPlain_218 (f187, a188, g189) hP hD ⟨(kb_w kc_1 (by decide) (by decide)), hI, hG, hE, hk0, ⟨ik168, nk168, (by show (f187 1604).toInt = ((ik168 : Nat) : Int); rw [((eE190.1 1604 rfl).trans ((eE181.1 1604 rfl).trans egv169.symm))]; exact hg170), (Nat.le_trans (Nat.le_succ_of_le (Nat.le_trans (Nat.le_trans (Nat.le_add_right _ _) hvlp6_1.1) hlek30)) hlek168), hNk168, Or.inl ⟨rfl, ⟨(by show (f187 1605).toInt = ((nk168 : Nat) : Int); rw [((eE190.1 1605 rfl).trans ((eE181.1 1605 rfl).trans ez172.symm))]; exact hzz172), h3k168.2⟩, (by omega), xc _ (pi_5n hn8 (pi_10c (fun q => c22 (hw18.2.trans q)) hGk30 (Or.inl (hw37.2.symm.trans c41)) hGk168))⟩⟩⟩
                      · have b191 : kb 1 y4 1 := kr_nel c182 b9 kc_0 (by decide)
                        refine lv_iconst (v := 2) hx hb dX4_readPlain_209 (by decide) ?_
                        refine lv_goto (tgt := 214) hx hb dX4_readPlain_210 (by decide) ?_
                        refine kVG.callW (As := [.int 2]) (rest := []) ⟨hx, hb, hml, hown, hg⟩ (y_emitIfAny l r f178 a179 g180 tx tt hT hI hG 2 (kb_w kc_2 (by decide) (by decide)) ) (cwV 1 hg (kgV wt4_26 wt4_28 wp2_1 wt1_7 wt4_29) rfl rfl rfl (by decide +kernel) ⟨by dsimp only [rmD]; omega, by dsimp only [rmD]; omega⟩) hV hK hP hD hS hA (50) 4 rfl rfl rfl hl.1 rfl (Nat.le_of_ble_eq_true rfl) dX4_readPlain_214 ⟨Nat.le_refl _, Nat.le_refl _⟩ (fun u194 H locs hw192 hP hD hS => ?_)
                        obtain ⟨f195, a196, g197⟩ := u194
                        have hP : va_P D vwCl (xX K r f195 a196 g197 tx) H := hP
                        have hD : va_D A (xX K r f195 a196 g197 tx) := hD
                        have hI : xI f195 a196 := hw192.1
                        have hG : gOK K g197.2 tt := hw192.2.1
                        have eE198 : xEk [12, 13, 14, 32, 38, 44, 49, 50, 832, 838, 844, 849, 850, 1603, 1604, 1605, 1606, 1632] f178 a179 g180 f195 a196 g197 := hw192.2.2.1
                        have hE : xEk [12, 13, 14, 32, 38, 44, 49, 50, 832, 838, 844, 849, 850, 1603, 1606, 1632] f a g f195 a196 g197 := xEk_tr hE (xEk_w (by decide) eE198)
                        have hk0 : xQ f195 a196 N ob T pl := xQ_c hk0 (eE198.1 1603 rfl) (eE198.1 1606 rfl) hw192.2.2.2
                        refine lv_iconst (v := 1) hx hb dX4_readPlain_217 (by decide) ?_
                        exact kI_ret (v := 1) hx hb hr hlocks (by decide +kernel) hK hS dX4_readPlain_218 (f195, a196, g197) hP hD ⟨(kb_w kc_1 (by decide) (by decide)), hI, hG, hE, hk0, ⟨ik168, nk168, (by show (f195 1604).toInt = ((ik168 : Nat) : Int); rw [((eE198.1 1604 rfl).trans ((eE181.1 1604 rfl).trans egv169.symm))]; exact hg170), (Nat.le_trans (Nat.le_succ_of_le (Nat.le_trans (Nat.le_trans (Nat.le_add_right _ _) hvlp6_1.1) hlek30)) hlek168), hNk168, Or.inl ⟨rfl, ⟨(by show (f195 1605).toInt = ((nk168 : Nat) : Int); rw [((eE198.1 1605 rfl).trans ((eE181.1 1605 rfl).trans ez172.symm))]; exact hzz172), h3k168.2⟩, (by omega), xc _ (pi_5n hn8 (pi_10c (fun q => c22 (hw18.2.trans q)) hGk30 (Or.inl (hw37.2.symm.trans c41)) hGk168))⟩⟩⟩
                    · exact kb_dj c174 kc_1 kc_0 (by decide)
                  · refine k_top (z := 0) hvk168 ?_
                    obtain ⟨gv199, egv199⟩ : ∃ z : Int32, z = f164 1604 := ⟨_, rfl⟩
                    have hg200 : gv199.toInt = ((ik168 : Nat) : Int) := by rw [egv199]; exact hgk168
                    have b201 : kb 0 gv199 400 := kb_pos hNk168 hN4 hg200
                    refine lv_if_ne (tgt := 194) hx hb dX4_readPlain_189 (by decide) (fun c202 => ?_) (fun c202 => ?_)
                    · exact kb_nsame c202 kc_0 kc_0
                    · refine lv_iconst (v := 0) hx hb dX4_readPlain_192 (by decide) ?_
                      exact kI_ret (v := 0) hx hb hr hlocks (by decide +kernel) hK hS dX4_readPlain_193 (f164, a165, g166) hP hD ⟨(kb_w kc_0 (by decide) (by decide)), hI, hG, hE, hk0, ⟨ik168, 0, (by show (f164 1604).toInt = ((ik168 : Nat) : Int); rw [egv199.symm]; exact hg200), (Nat.le_trans (Nat.le_succ_of_le (Nat.le_trans (Nat.le_trans (Nat.le_add_right _ _) hvlp6_1.1) hlek30)) hlek168), hNk168, Or.inr ⟨rfl, xc _ (pi_5n hn8 (pi_10c (fun q => c22 (hw18.2.trans q)) hGk30 (Or.inl (hw37.2.symm.trans c41)) hGk168))⟩⟩⟩
                · exact kb_dj c154 kc_10 kc_m1 (by decide)
            · exact kb_dj c36 kc_1 kc_0 (by decide)
          · refine k_top (z := 0) hvk30 ?_
            obtain ⟨gv203, egv203⟩ : ∃ z : Int32, z = f26 1604 := ⟨_, rfl⟩
            have hg204 : gv203.toInt = ((ik30 : Nat) : Int) := by rw [egv203]; exact hgk30
            have b205 : kb 0 gv203 400 := kb_pos hNk30 hN4 hg204
            refine lv_if_ne (tgt := 120) hx hb dX4_readPlain_115 (by decide) (fun c206 => ?_) (fun c206 => ?_)
            · exact kb_nsame c206 kc_0 kc_0
            · refine lv_iconst (v := 0) hx hb dX4_readPlain_118 (by decide) ?_
              exact kI_ret (v := 0) hx hb hr hlocks (by decide +kernel) hK hS dX4_readPlain_119 (f26, a27, g28) hP hD ⟨(kb_w kc_0 (by decide) (by decide)), hI, hG, hE, hk0, ⟨ik30, 0, (by show (f26 1604).toInt = ((ik30 : Nat) : Int); rw [egv203.symm]; exact hg204), (Nat.le_trans (Nat.le_trans (Nat.le_add_right _ _) hvlp6_1.1) hlek30), hNk30, Or.inr ⟨rfl, xc _ (pi_5n hn8 (pi_10g (fun q => c22 (hw18.2.trans q)) hGk30))⟩⟩⟩
        · have b207 : kb 3040 v19 3040 := kb_eq c22 kc_3040
          refine lv_iload_n hx hb dX4_readPlain_57 rfl (lv_at hl 3 rfl) ?_
          refine lv_bipush (v := 8) hx hb dX4_readPlain_58 (by decide) ?_
          refine lv_icmp_lt (tgt := 65) hx hb dX4_readPlain_60 (by decide) (fun c208 => ?_) (fun c208 => ?_)
          · have h209 := (kc_lt c208)
            have b210 : kb 0 dp 7 := kr_lt1 h209 bdp kc_8 (by decide)
            refine lv_aload_n hx hb dX4_readPlain_65 rfl (lv_at hl 2 rfl) ?_
            refine lv_dup hx hb dX4_readPlain_66 rfl ?_
            have hlt211 : i5 < N := xQ_lt hk0 (ne_4000 (hw18.2.symm.trans c22) (by decide +kernel))
            have b212 : kb 0 gv10 399 := kb_pos1 hlt211 hN4 hg11
            refine va_get (D := D) (ci := 4) (v := .int (F5 1604)) (C := RX4) (T := TX4) (N := 7) hx hb hg inC4 hown hK hP 50 rfl rfl 4 (by decide) (hg _ wt2_69) (fun _ h9 => h9) rfl dX4_readPlain_67 ?_
            refine k_top (z := gv10) egv10.symm ?_
            refine lv_iconst (v := 1) hx hb dX4_readPlain_70 (by decide) ?_
            refine lv_iadd hx hb dX4_readPlain_71 ?_
            refine lv_topi (fun t213 et213 => ?_)
            have b214 : kb 1 t213 400 := kb_eq et213 (kb_add b212 kc_1 (by decide) (by decide))
            have qt213 : t213.toInt = gv10.toInt + 1 := by rw [et213]; exact kt_addc b212 kc_1 (by decide) (by decide)
            have hg215 : t213.toInt = ((i5 + 1 : Nat) : Int) := by rw [qt213, hg11]; omega
            refine va_put (D := D) (ci := 4) (v := .int t213) (ty := .int) (C := RX4) (T := TX4) (N := 7) hx hb hg inC4 tyX4 tyX4_ok nmX4 hown hK hP hD hS 50 rfl rfl 4 (by decide) (hg _ wt2_69) (fun _ h9 => h9) rfl (by decide +kernel) rfl rfl (Nat.le_of_ble_eq_true rfl) dX4_readPlain_72 (fun H locs hP hD hS => ?_)
            have hP : va_P D vwCl (xX K r (upd F5 1604 t213) a g tx) H := hP
            have hD : va_D A (xX K r (upd F5 1604 t213) a g tx) := hD
            refine k_gen (P := fun z => va_P D vwCl (xX K r z a g tx) H ∧ va_D A (xX K r z a g tx) ∧ (xI z a) ∧ (gOK K g.2 tt) ∧ (xEk [12, 13, 14, 32, 38, 44, 49, 50, 832, 838, 844, 849, 850, 1603, 1606, 1632] f a g z a g) ∧ (xQ z a N ob T pl)) (upd F5 1604 t213) ⟨hP, hD, (xI_f hI (fI_st hI.1 1604 (kb_any _) (by decide) (by decide))), hG, (xEk_f hE (by decide)), (xQ_f hk0 (by decide) (by decide))⟩ (fun f_216 ef_216 hq => ?_)
            obtain ⟨hP, hD, hI, hG, hE, hk0⟩ := hq
            obtain ⟨ee, hd⟩ : ∃ ee, d = ee + 1 := ⟨d - 1, by have w1 := hp4; have w2 := (b210).2; omega⟩
            refine lv_aload_n hx hb dX4_readPlain_75 rfl (lv_at hl 2 rfl) ?_
            refine lv_iload_n hx hb dX4_readPlain_76 rfl (lv_at hl 3 rfl) ?_
            refine lv_iconst (v := 1) hx hb dX4_readPlain_77 (by decide) ?_
            refine lv_iadd hx hb dX4_readPlain_78 ?_
            refine lv_topi (fun t217 et217 => ?_)
            have b218 : kb 1 t217 8 := kb_eq et217 (kb_add b210 kc_1 (by decide) (by decide))
            have qt217 : t217.toInt = dp.toInt + 1 := by rw [et217]; exact kt_addc b210 kc_1 (by decide) (by decide)
            refine kIG.callW (As := [.int t217]) (rest := []) ⟨hx, hb, hml, hown, hg⟩ ((ih ee hd) l r f_216 a g tx tt hT hI hG t217 (kb_w b218 (by decide) (by decide)) N (i5 + 1) (n5) ob T pl hk0 (by rw [(show f_216 1604 = t213 from by rw [← ef_216]; rfl)]; exact hg215) hlt211 ⟨(by rw [((show f_216 1605 = F5 1605 from by rw [← ef_216]; rfl).trans ez13.symm)]; exact hzz13), hvlp6_2.2⟩ (by have w1 := hp4; have w2 := qt217; omega)) (cwV 1 hg (kgV wt4_50 wt4_52 wp2_5 wt1_7 wt4_53) rfl rfl rfl (by decide +kernel) ⟨by dsimp only [rmD]; omega, by dsimp only [rmD]; omega⟩) hV hK hP hD hS hA (50) 4 rfl rfl rfl hl.1 rfl (Nat.le_of_ble_eq_true rfl) dX4_readPlain_79 ⟨Nat.le_refl _, Nat.le_refl _⟩ (fun v220 u221 H locs hw219 hP hD hS => ?_)
            obtain ⟨f222, a223, g224⟩ := u221
            have hP : va_P D vwCl (xX K r f222 a223 g224 tx) H := hP
            have hD : va_D A (xX K r f222 a223 g224 tx) := hD
            have hI : xI f222 a223 := hw219.2.1
            have hG : gOK K g224.2 tt := hw219.2.2.1
            have eE225 : xEk [12, 13, 14, 32, 38, 44, 49, 50, 832, 838, 844, 849, 850, 1603, 1606, 1632] f_216 a g f222 a223 g224 := hw219.2.2.2.1
            have hE : xEk [12, 13, 14, 32, 38, 44, 49, 50, 832, 838, 844, 849, 850, 1603, 1606, 1632] f a g f222 a223 g224 := xEk_tr hE eE225
            have hk0 : xQ f222 a223 N ob T pl := hw219.2.2.2.2.1
            obtain ⟨ik226, nk226, hgk226, hlek226, hNk226, hck226⟩ := hw219.2.2.2.2.2
            rcases hck226 with ⟨hvk226, h3k226, hltk226, hGk226⟩ | ⟨hvk226, hGk226⟩
            · refine k_top (z := 1) hvk226 ?_
              obtain ⟨gv227, egv227⟩ : ∃ z : Int32, z = f222 1604 := ⟨_, rfl⟩
              have hg228 : gv227.toInt = ((ik226 : Nat) : Int) := by rw [egv227]; exact hgk226
              have b229 : kb 0 gv227 400 := kb_pos hNk226 hN4 hg228
              obtain ⟨z230, ez230⟩ : ∃ z : Int32, z = f222 1605 := ⟨_, rfl⟩
              have hzz230 : z230.toInt = ((nk226 : Nat) : Int) := by rw [ez230]; exact h3k226.1
              have b231 : kb 0 z230 50 := ⟨by omega, by have w1 := h3k226.2; omega⟩
              refine lv_if_eq (tgt := 95) hx hb dX4_readPlain_82 (by decide) (fun c232 => ?_) (fun c232 => ?_)
              · exact kb_dj c232 kc_1 kc_0 (by decide)
              · refine lv_aload_n hx hb dX4_readPlain_85 rfl (lv_at hl 2 rfl) ?_
                refine kIG.callW (As := []) (rest := []) ⟨hx, hb, hml, hown, hg⟩ (y_inHand l r f222 a223 g224 tx tt hT hI hG   N (ik226) ob T pl hk0 (by rw [egv227.symm]; exact hg228) hNk226) (cwV 0 hg (kgV wt3_238 wt4_0 wp1_12 wt1_7 wt4_1) rfl rfl rfl (by decide +kernel) ⟨by dsimp only [rmD]; omega, by dsimp only [rmD]; omega⟩) hV hK hP hD hS hA (50) 4 rfl rfl rfl hl.1 rfl (Nat.le_of_ble_eq_true rfl) dX4_readPlain_86 ⟨Nat.le_refl _, Nat.le_refl _⟩ (fun v234 u235 H locs hw233 hP hD hS => ?_)
                have hP : va_P D vwCl (xX K r f222 a223 g224 tx) H := hP
                have hD : va_D A (xX K r f222 a223 g224 tx) := hD
                have b236 : kb 0 v234 4000 := kb_eq hw233.2 (hk0.2.2.2.2.2.2 (ik226))
                refine lv_sipush (v := 3041) hx hb dX4_readPlain_89 (by decide) ?_
                refine lv_icmp_eq (tgt := 97) hx hb dX4_readPlain_92 (by decide) (fun c237 => ?_) (fun c237 => ?_)
                · have b238 : kb 3041 v234 3041 := kb_eq c237 kc_3041
                  refine lv_aload_n hx hb dX4_readPlain_97 rfl (lv_at hl 2 rfl) ?_
                  refine lv_dup hx hb dX4_readPlain_98 rfl ?_
                  have hlt239 : ik226 < N := xQ_lt hk0 (ne_4000 (hw233.2.symm.trans c237) (by decide +kernel))
                  have b240 : kb 0 gv227 399 := kb_pos1 hlt239 hN4 hg228
                  refine va_get (D := D) (ci := 4) (v := .int (f222 1604)) (C := RX4) (T := TX4) (N := 7) hx hb hg inC4 hown hK hP 50 rfl rfl 4 (by decide) (hg _ wt2_69) (fun _ h9 => h9) rfl dX4_readPlain_99 ?_
                  refine k_top (z := gv227) egv227.symm ?_
                  refine lv_iconst (v := 1) hx hb dX4_readPlain_102 (by decide) ?_
                  refine lv_iadd hx hb dX4_readPlain_103 ?_
                  refine lv_topi (fun t241 et241 => ?_)
                  have b242 : kb 1 t241 400 := kb_eq et241 (kb_add b240 kc_1 (by decide) (by decide))
                  have qt241 : t241.toInt = gv227.toInt + 1 := by rw [et241]; exact kt_addc b240 kc_1 (by decide) (by decide)
                  have hg243 : t241.toInt = ((ik226 + 1 : Nat) : Int) := by rw [qt241, hg228]; omega
                  refine va_put (D := D) (ci := 4) (v := .int t241) (ty := .int) (C := RX4) (T := TX4) (N := 7) hx hb hg inC4 tyX4 tyX4_ok nmX4 hown hK hP hD hS 50 rfl rfl 4 (by decide) (hg _ wt2_69) (fun _ h9 => h9) rfl (by decide +kernel) rfl rfl (Nat.le_of_ble_eq_true rfl) dX4_readPlain_104 (fun H locs hP hD hS => ?_)
                  have hP : va_P D vwCl (xX K r (upd f222 1604 t241) a223 g224 tx) H := hP
                  have hD : va_D A (xX K r (upd f222 1604 t241) a223 g224 tx) := hD
                  refine k_gen (P := fun z => va_P D vwCl (xX K r z a223 g224 tx) H ∧ va_D A (xX K r z a223 g224 tx) ∧ (xI z a223) ∧ (gOK K g224.2 tt) ∧ (xEk [12, 13, 14, 32, 38, 44, 49, 50, 832, 838, 844, 849, 850, 1603, 1606, 1632] f a g z a223 g224) ∧ (xQ z a223 N ob T pl)) (upd f222 1604 t241) ⟨hP, hD, (xI_f hI (fI_st hI.1 1604 (kb_any _) (by decide) (by decide))), hG, (xEk_f hE (by decide)), (xQ_f hk0 (by decide) (by decide))⟩ (fun f_244 ef_244 hq => ?_)
                  obtain ⟨hP, hD, hI, hG, hE, hk0⟩ := hq
                  refine lv_goto (tgt := 204) hx hb dX4_readPlain_107 (by decide) ?_
                  refine lv_aload_n hx hb dX4_readPlain_204 rfl (lv_at hl 2 rfl) ?_
                  refine lv_iload_n hx hb dX4_readPlain_205 rfl (lv_at hl 1 rfl) ?_
                  refine lv_if_eq (tgt := 213) hx hb dX4_readPlain_206 (by decide) (fun c245 => ?_) (fun c245 => ?_)
                  · have b246 : kb 0 y4 0 := kb_eq c245 kc_0
                    refine lv_iconst (v := (-1)) hx hb dX4_readPlain_213 (by decide) ?_
                    refine kVG.callW (As := [.int (-1)]) (rest := []) ⟨hx, hb, hml, hown, hg⟩ (y_emitIfAny l r f_244 a223 g224 tx tt hT hI hG (-1) (kb_w kc_m1 (by decide) (by decide)) ) (cwV 1 hg (kgV wt4_26 wt4_28 wp2_1 wt1_7 wt4_29) rfl rfl rfl (by decide +kernel) ⟨by dsimp only [rmD]; omega, by dsimp only [rmD]; omega⟩) hV hK hP hD hS hA (50) 4 rfl rfl rfl hl.1 rfl (Nat.le_of_ble_eq_true rfl) dX4_readPlain_214 ⟨Nat.le_refl _, Nat.le_refl _⟩ (fun u249 H locs hw247 hP hD hS => ?_)
                    obtain ⟨f250, a251, g252⟩ := u249
                    have hP : va_P D vwCl (xX K r f250 a251 g252 tx) H := hP
                    have hD : va_D A (xX K r f250 a251 g252 tx) := hD
                    have hI : xI f250 a251 := hw247.1
                    have hG : gOK K g252.2 tt := hw247.2.1
                    have eE253 : xEk [12, 13, 14, 32, 38, 44, 49, 50, 832, 838, 844, 849, 850, 1603, 1604, 1605, 1606, 1632] f_244 a223 g224 f250 a251 g252 := hw247.2.2.1
                    have hE : xEk [12, 13, 14, 32, 38, 44, 49, 50, 832, 838, 844, 849, 850, 1603, 1606, 1632] f a g f250 a251 g252 := xEk_tr hE (xEk_w (by decide) eE253)
                    have hk0 : xQ f250 a251 N ob T pl := xQ_c hk0 (eE253.1 1603 rfl) (eE253.1 1606 rfl) hw247.2.2.2
                    refine lv_iconst (v := 1) hx hb dX4_readPlain_217 (by decide) ?_
                    exact kI_ret (v := 1) hx hb hr hlocks (by decide +kernel) hK hS dX4_readPlain_218 (f250, a251, g252) hP hD ⟨(kb_w kc_1 (by decide) (by decide)), hI, hG, hE, hk0, ⟨ik226 + 1, nk226, (by show (f250 1604).toInt = ((ik226 + 1 : Nat) : Int); rw [((eE253.1 1604 rfl).trans (show f_244 1604 = t241 from by rw [← ef_244]; rfl))]; exact hg243), (Nat.le_succ_of_le (Nat.le_trans (Nat.le_succ_of_le (Nat.le_trans (Nat.le_add_right _ _) hvlp6_1.1)) hlek226)), hlt239, Or.inl ⟨rfl, ⟨(by show (f250 1605).toInt = ((nk226 : Nat) : Int); rw [((eE253.1 1605 rfl).trans ((show f_244 1605 = f222 1605 from by rw [← ef_244]; rfl).trans ez230.symm))]; exact hzz230), h3k226.2⟩, (by omega), xc _ (pi_5n hn8 (pi_10a (hw18.2.symm.trans c22) hd hGk226 (hw233.2.symm.trans c237)))⟩⟩⟩
                  · have b254 : kb 1 y4 1 := kr_nel c245 b9 kc_0 (by decide)
                    refine lv_iconst (v := 2) hx hb dX4_readPlain_209 (by decide) ?_
                    refine lv_goto (tgt := 214) hx hb dX4_readPlain_210 (by decide) ?_
                    refine kVG.callW (As := [.int 2]) (rest := []) ⟨hx, hb, hml, hown, hg⟩ (y_emitIfAny l r f_244 a223 g224 tx tt hT hI hG 2 (kb_w kc_2 (by decide) (by decide)) ) (cwV 1 hg (kgV wt4_26 wt4_28 wp2_1 wt1_7 wt4_29) rfl rfl rfl (by decide +kernel) ⟨by dsimp only [rmD]; omega, by dsimp only [rmD]; omega⟩) hV hK hP hD hS hA (50) 4 rfl rfl rfl hl.1 rfl (Nat.le_of_ble_eq_true rfl) dX4_readPlain_214 ⟨Nat.le_refl _, Nat.le_refl _⟩ (fun u257 H locs hw255 hP hD hS => ?_)
                    obtain ⟨f258, a259, g260⟩ := u257
                    have hP : va_P D vwCl (xX K r f258 a259 g260 tx) H := hP
                    have hD : va_D A (xX K r f258 a259 g260 tx) := hD
                    have hI : xI f258 a259 := hw255.1
                    have hG : gOK K g260.2 tt := hw255.2.1
                    have eE261 : xEk [12, 13, 14, 32, 38, 44, 49, 50, 832, 838, 844, 849, 850, 1603, 1604, 1605, 1606, 1632] f_244 a223 g224 f258 a259 g260 := hw255.2.2.1
                    have hE : xEk [12, 13, 14, 32, 38, 44, 49, 50, 832, 838, 844, 849, 850, 1603, 1606, 1632] f a g f258 a259 g260 := xEk_tr hE (xEk_w (by decide) eE261)
                    have hk0 : xQ f258 a259 N ob T pl := xQ_c hk0 (eE261.1 1603 rfl) (eE261.1 1606 rfl) hw255.2.2.2
                    refine lv_iconst (v := 1) hx hb dX4_readPlain_217 (by decide) ?_
                    exact kI_ret (v := 1) hx hb hr hlocks (by decide +kernel) hK hS dX4_readPlain_218 (f258, a259, g260) hP hD ⟨(kb_w kc_1 (by decide) (by decide)), hI, hG, hE, hk0, ⟨ik226 + 1, nk226, (by show (f258 1604).toInt = ((ik226 + 1 : Nat) : Int); rw [((eE261.1 1604 rfl).trans (show f_244 1604 = t241 from by rw [← ef_244]; rfl))]; exact hg243), (Nat.le_succ_of_le (Nat.le_trans (Nat.le_succ_of_le (Nat.le_trans (Nat.le_add_right _ _) hvlp6_1.1)) hlek226)), hlt239, Or.inl ⟨rfl, ⟨(by show (f258 1605).toInt = ((nk226 : Nat) : Int); rw [((eE261.1 1605 rfl).trans ((show f_244 1605 = f222 1605 from by rw [← ef_244]; rfl).trans ez230.symm))]; exact hzz230), h3k226.2⟩, (by omega), xc _ (pi_5n hn8 (pi_10a (hw18.2.symm.trans c22) hd hGk226 (hw233.2.symm.trans c237)))⟩⟩⟩
                · refine lv_iconst (v := 0) hx hb dX4_readPlain_95 (by decide) ?_
                  exact kI_ret (v := 0) hx hb hr hlocks (by decide +kernel) hK hS dX4_readPlain_96 (f222, a223, g224) hP hD ⟨(kb_w kc_0 (by decide) (by decide)), hI, hG, hE, hk0, ⟨ik226, 0, (by show (f222 1604).toInt = ((ik226 : Nat) : Int); rw [egv227.symm]; exact hg228), (Nat.le_trans (Nat.le_succ_of_le (Nat.le_trans (Nat.le_add_right _ _) hvlp6_1.1)) hlek226), hNk226, Or.inr ⟨rfl, xc _ (pi_5n hn8 (pi_10b (hw18.2.symm.trans c22) hd hGk226 (fun q => c237 (hw233.2.trans q))))⟩⟩⟩
            · refine k_top (z := 0) hvk226 ?_
              obtain ⟨gv262, egv262⟩ : ∃ z : Int32, z = f222 1604 := ⟨_, rfl⟩
              have hg263 : gv262.toInt = ((ik226 : Nat) : Int) := by rw [egv262]; exact hgk226
              have b264 : kb 0 gv262 400 := kb_pos hNk226 hN4 hg263
              refine lv_if_eq (tgt := 95) hx hb dX4_readPlain_82 (by decide) (fun c265 => ?_) (fun c265 => ?_)
              · refine lv_iconst (v := 0) hx hb dX4_readPlain_95 (by decide) ?_
                exact kI_ret (v := 0) hx hb hr hlocks (by decide +kernel) hK hS dX4_readPlain_96 (f222, a223, g224) hP hD ⟨(kb_w kc_0 (by decide) (by decide)), hI, hG, hE, hk0, ⟨ik226, 0, (by show (f222 1604).toInt = ((ik226 : Nat) : Int); rw [egv262.symm]; exact hg263), (Nat.le_trans (Nat.le_succ_of_le (Nat.le_trans (Nat.le_add_right _ _) hvlp6_1.1)) hlek226), hNk226, Or.inr ⟨rfl, xc _ (pi_5n hn8 (pi_10f (hw18.2.symm.trans c22) hd hGk226))⟩⟩⟩
              · exact kb_nsame c265 kc_0 kc_0
          · have h266 := (kc_nlt c208)
            have b267 : kb 8 dp 8 := kr_le2 h266 kc_8 bdp
            refine lv_iconst (v := 0) hx hb dX4_readPlain_63 (by decide) ?_
            exact kI_ret (v := 0) hx hb hr hlocks (by decide +kernel) hK hS dX4_readPlain_64 (F5, a, g) hP hD ⟨(kb_w kc_0 (by decide) (by decide)), hI, hG, hE, hk0, ⟨i5, 0, (by show (F5 1604).toInt = ((i5 : Nat) : Int); rw [egv10.symm]; exact hg11), (Nat.le_trans (Nat.le_add_right _ _) hvlp6_1.1), hvlp6_1.2, Or.inr ⟨rfl, xc _ (pi_5n hn8 (pi_10z (hw18.2.symm.trans c22) (by have w1 := hp4; have w2 := (b267).1; omega)))⟩⟩⟩
      · have h268 := (kc_nle c15)
        have b269 : kb 0 y3 399 := kr_lt1 h268 b8 kc_400 (by decide)
        refine lv_aload_n hx hb dX4_readPlain_11 rfl (lv_at hl 2 rfl) ?_
        refine kIG.callW (As := []) (rest := []) ⟨hx, hb, hml, hown, hg⟩ (y_inHand l r F5 a g tx tt hT hI hG   N (i5) ob T pl hk0 (by rw [egv10.symm]; exact hg11) hvlp6_1.2) (cwV 0 hg (kgV wt3_238 wt4_0 wp1_12 wt1_7 wt4_1) rfl rfl rfl (by decide +kernel) ⟨by dsimp only [rmD]; omega, by dsimp only [rmD]; omega⟩) hV hK hP hD hS hA (50) 4 rfl rfl rfl hl.1 rfl (Nat.le_of_ble_eq_true rfl) dX4_readPlain_12 ⟨Nat.le_refl _, Nat.le_refl _⟩ (fun v271 u272 H locs hw270 hP hD hS => ?_)
        have hP : va_P D vwCl (xX K r F5 a g tx) H := hP
        have hD : va_D A (xX K r F5 a g tx) := hD
        have b273 : kb 0 v271 4000 := kb_eq hw270.2 (hk0.2.2.2.2.2.2 (i5))
        refine lv_sipush (v := 2002) hx hb dX4_readPlain_15 (by decide) ?_
        refine lv_icmp_ne (tgt := 47) hx hb dX4_readPlain_18 (by decide) (fun c274 => ?_) (fun c274 => ?_)
        · have hn8 : ¬ T i5 = 2002 := (fun q => c274 (hw270.2.trans q))
          refine lv_aload_n hx hb dX4_readPlain_47 rfl (lv_at hl 2 rfl) ?_
          refine kIG.callW (As := []) (rest := []) ⟨hx, hb, hml, hown, hg⟩ (y_inHand l r F5 a g tx tt hT hI hG   N (i5) ob T pl hk0 (by rw [egv10.symm]; exact hg11) hvlp6_1.2) (cwV 0 hg (kgV wt3_238 wt4_0 wp1_12 wt1_7 wt4_1) rfl rfl rfl (by decide +kernel) ⟨by dsimp only [rmD]; omega, by dsimp only [rmD]; omega⟩) hV hK hP hD hS hA (50) 4 rfl rfl rfl hl.1 rfl (Nat.le_of_ble_eq_true rfl) dX4_readPlain_48 ⟨Nat.le_refl _, Nat.le_refl _⟩ (fun v276 u277 H locs hw275 hP hD hS => ?_)
          have hP : va_P D vwCl (xX K r F5 a g tx) H := hP
          have hD : va_D A (xX K r F5 a g tx) := hD
          have b278 : kb 0 v276 4000 := kb_eq hw275.2 (hk0.2.2.2.2.2.2 (i5))
          refine lv_sipush (v := 3040) hx hb dX4_readPlain_51 (by decide) ?_
          refine lv_icmp_ne (tgt := 110) hx hb dX4_readPlain_54 (by decide) (fun c279 => ?_) (fun c279 => ?_)
          · refine lv_aload_n hx hb dX4_readPlain_110 rfl (lv_at hl 2 rfl) ?_
            refine lv_iload_n hx hb dX4_readPlain_111 rfl (lv_at hl 3 rfl) ?_
            refine kIG.callW (As := [.int dp]) (rest := []) ⟨hx, hb, hml, hown, hg⟩ (hsum l r F5 a g tx tt hT hI hG dp bdp N (i5) (n5) ob T pl hk0 (by rw [egv10.symm]; exact hg11) hvlp6_1.2 ⟨(by rw [ez13.symm]; exact hzz13), hvlp6_2.2⟩ hp4) (cwV 1 hg (kgV wt4_6 wt4_8 wp1_13 wt1_7 wt4_9) rfl rfl rfl (by decide +kernel) ⟨by dsimp only [rmD]; omega, by dsimp only [rmD]; omega⟩) hV hK hP hD hS hA (50) 4 rfl rfl rfl hl.1 rfl (Nat.le_of_ble_eq_true rfl) dX4_readPlain_112 ⟨Nat.le_refl _, Nat.le_refl _⟩ (fun v281 u282 H locs hw280 hP hD hS => ?_)
            obtain ⟨f283, a284, g285⟩ := u282
            have hP : va_P D vwCl (xX K r f283 a284 g285 tx) H := hP
            have hD : va_D A (xX K r f283 a284 g285 tx) := hD
            have hI : xI f283 a284 := hw280.2.1
            have hG : gOK K g285.2 tt := hw280.2.2.1
            have eE286 : xEk [12, 13, 14, 32, 38, 44, 49, 50, 832, 838, 844, 849, 850, 1603, 1606, 1632] F5 a g f283 a284 g285 := hw280.2.2.2.1
            have hE : xEk [12, 13, 14, 32, 38, 44, 49, 50, 832, 838, 844, 849, 850, 1603, 1606, 1632] f a g f283 a284 g285 := xEk_tr hE eE286
            have hk0 : xQ f283 a284 N ob T pl := hw280.2.2.2.2.1
            obtain ⟨ik287, nk287, hgk287, hlek287, hNk287, hck287⟩ := hw280.2.2.2.2.2
            rcases hck287 with ⟨hvk287, h3k287, hltk287, hGk287⟩ | ⟨hvk287, hGk287⟩
            · refine k_top (z := 1) hvk287 ?_
              obtain ⟨gv288, egv288⟩ : ∃ z : Int32, z = f283 1604 := ⟨_, rfl⟩
              have hg289 : gv288.toInt = ((ik287 : Nat) : Int) := by rw [egv288]; exact hgk287
              have b290 : kb 0 gv288 400 := kb_pos hNk287 hN4 hg289
              obtain ⟨z291, ez291⟩ : ∃ z : Int32, z = f283 1605 := ⟨_, rfl⟩
              have hzz291 : z291.toInt = ((nk287 : Nat) : Int) := by rw [ez291]; exact h3k287.1
              have b292 : kb 0 z291 50 := ⟨by omega, by have w1 := h3k287.2; omega⟩
              refine lv_if_ne (tgt := 120) hx hb dX4_readPlain_115 (by decide) (fun c293 => ?_) (fun c293 => ?_)
              · refine lv_aload_n hx hb dX4_readPlain_120 rfl (lv_at hl 2 rfl) ?_
                refine kIG.callW (As := []) (rest := []) ⟨hx, hb, hml, hown, hg⟩ (y_inHand l r f283 a284 g285 tx tt hT hI hG   N (ik287) ob T pl hk0 (by rw [egv288.symm]; exact hg289) hNk287) (cwV 0 hg (kgV wt3_238 wt4_0 wp1_12 wt1_7 wt4_1) rfl rfl rfl (by decide +kernel) ⟨by dsimp only [rmD]; omega, by dsimp only [rmD]; omega⟩) hV hK hP hD hS hA (50) 4 rfl rfl rfl hl.1 rfl (Nat.le_of_ble_eq_true rfl) dX4_readPlain_121 ⟨Nat.le_refl _, Nat.le_refl _⟩ (fun v295 u296 H locs hw294 hP hD hS => ?_)
                have hP : va_P D vwCl (xX K r f283 a284 g285 tx) H := hP
                have hD : va_D A (xX K r f283 a284 g285 tx) := hD
                have b297 : kb 0 v295 4000 := kb_eq hw294.2 (hk0.2.2.2.2.2.2 (ik287))
                refine lv_sipush (v := 3060) hx hb dX4_readPlain_124 (by decide) ?_
                refine lv_icmp_ne (tgt := 135) hx hb dX4_readPlain_127 (by decide) (fun c298 => ?_) (fun c298 => ?_)
                · refine lv_aload_n hx hb dX4_readPlain_135 rfl (lv_at hl 2 rfl) ?_
                  refine kIG.callW (As := []) (rest := []) ⟨hx, hb, hml, hown, hg⟩ (y_inHand l r f283 a284 g285 tx tt hT hI hG   N (ik287) ob T pl hk0 (by rw [egv288.symm]; exact hg289) hNk287) (cwV 0 hg (kgV wt3_238 wt4_0 wp1_12 wt1_7 wt4_1) rfl rfl rfl (by decide +kernel) ⟨by dsimp only [rmD]; omega, by dsimp only [rmD]; omega⟩) hV hK hP hD hS hA (50) 4 rfl rfl rfl hl.1 rfl (Nat.le_of_ble_eq_true rfl) dX4_readPlain_136 ⟨Nat.le_refl _, Nat.le_refl _⟩ (fun v300 u301 H locs hw299 hP hD hS => ?_)
                  have hP : va_P D vwCl (xX K r f283 a284 g285 tx) H := hP
                  have hD : va_D A (xX K r f283 a284 g285 tx) := hD
                  have b302 : kb 0 v300 4000 := kb_eq hw299.2 (hk0.2.2.2.2.2.2 (ik287))
                  refine lv_sipush (v := 3062) hx hb dX4_readPlain_139 (by decide) ?_
                  refine lv_icmp_ne (tgt := 150) hx hb dX4_readPlain_142 (by decide) (fun c303 => ?_) (fun c303 => ?_)
                  · refine lv_aload_n hx hb dX4_readPlain_150 rfl (lv_at hl 2 rfl) ?_
                    refine kIG.callW (As := []) (rest := []) ⟨hx, hb, hml, hown, hg⟩ (y_inHand l r f283 a284 g285 tx tt hT hI hG   N (ik287) ob T pl hk0 (by rw [egv288.symm]; exact hg289) hNk287) (cwV 0 hg (kgV wt3_238 wt4_0 wp1_12 wt1_7 wt4_1) rfl rfl rfl (by decide +kernel) ⟨by dsimp only [rmD]; omega, by dsimp only [rmD]; omega⟩) hV hK hP hD hS hA (50) 4 rfl rfl rfl hl.1 rfl (Nat.le_of_ble_eq_true rfl) dX4_readPlain_151 ⟨Nat.le_refl _, Nat.le_refl _⟩ (fun v305 u306 H locs hw304 hP hD hS => ?_)
                    have hP : va_P D vwCl (xX K r f283 a284 g285 tx) H := hP
                    have hD : va_D A (xX K r f283 a284 g285 tx) := hD
                    have b307 : kb 0 v305 4000 := kb_eq hw304.2 (hk0.2.2.2.2.2.2 (ik287))
                    refine lv_sipush (v := 3061) hx hb dX4_readPlain_154 (by decide) ?_
                    refine lv_icmp_ne (tgt := 165) hx hb dX4_readPlain_157 (by decide) (fun c308 => ?_) (fun c308 => ?_)
                    · refine lv_iconst (v := (-1)) hx hb dX4_readPlain_165 (by decide) ?_
                      refine lv_istore_n (lv' := [(3, .int (-1)), (2, .int y4), (0, .ref (r 50)), (1, .int dp)]) hx hb dX4_readPlain_166 rfl hl (by decide) rfl (fun ls hl => ?_)
                      refine lv_iload_n hx hb dX4_readPlain_167 rfl (lv_at hl 0 rfl) ?_
                      refine lv_iconst (v := (-1)) hx hb dX4_readPlain_168 (by decide) ?_
                      refine lv_icmp_ne (tgt := 174) hx hb dX4_readPlain_169 (by decide) (fun c309 => ?_) (fun c309 => ?_)
                      · exact kb_nsame c309 kc_m1 kc_m1
                      · refine lv_iconst (v := 0) hx hb dX4_readPlain_172 (by decide) ?_
                        exact kI_ret (v := 0) hx hb hr hlocks (by decide +kernel) hK hS dX4_readPlain_173 (f283, a284, g285) hP hD ⟨(kb_w kc_0 (by decide) (by decide)), hI, hG, hE, hk0, ⟨ik287, 0, (by show (f283 1604).toInt = ((ik287 : Nat) : Int); rw [egv288.symm]; exact hg289), (Nat.le_trans (Nat.le_trans (Nat.le_add_right _ _) hvlp6_1.1) hlek287), hNk287, Or.inr ⟨rfl, xc _ (pi_5n hn8 (pi_10n (fun q => c279 (hw275.2.trans q)) hGk287 (fun q => q.elim (fun q => c298 (hw294.2.trans q)) (fun q => q.elim (fun q => c303 (hw299.2.trans q)) (fun q => c308 (hw304.2.trans q))))))⟩⟩⟩
                    · have b310 : kb 3061 v305 3061 := kb_eq c308 kc_3061
                      refine lv_bipush (v := 12) hx hb dX4_readPlain_160 (by decide) ?_
                      refine lv_goto (tgt := 166) hx hb dX4_readPlain_162 (by decide) ?_
                      refine lv_istore_n (lv' := [(3, .int 12), (2, .int y4), (0, .ref (r 50)), (1, .int dp)]) hx hb dX4_readPlain_166 rfl hl (by decide) rfl (fun ls hl => ?_)
                      refine lv_iload_n hx hb dX4_readPlain_167 rfl (lv_at hl 0 rfl) ?_
                      refine lv_iconst (v := (-1)) hx hb dX4_readPlain_168 (by decide) ?_
                      refine lv_icmp_ne (tgt := 174) hx hb dX4_readPlain_169 (by decide) (fun c311 => ?_) (fun c311 => ?_)
                      · refine lv_aload_n hx hb dX4_readPlain_174 rfl (lv_at hl 2 rfl) ?_
                        refine lv_dup hx hb dX4_readPlain_175 rfl ?_
                        have hlt312 : ik287 < N := xQ_lt hk0 (ne_4000 (hw304.2.symm.trans c308) (by decide +kernel))
                        have b313 : kb 0 gv288 399 := kb_pos1 hlt312 hN4 hg289
                        refine va_get (D := D) (ci := 4) (v := .int (f283 1604)) (C := RX4) (T := TX4) (N := 7) hx hb hg inC4 hown hK hP 50 rfl rfl 4 (by decide) (hg _ wt2_69) (fun _ h9 => h9) rfl dX4_readPlain_176 ?_
                        refine k_top (z := gv288) egv288.symm ?_
                        refine lv_iconst (v := 1) hx hb dX4_readPlain_179 (by decide) ?_
                        refine lv_iadd hx hb dX4_readPlain_180 ?_
                        refine lv_topi (fun t314 et314 => ?_)
                        have b315 : kb 1 t314 400 := kb_eq et314 (kb_add b313 kc_1 (by decide) (by decide))
                        have qt314 : t314.toInt = gv288.toInt + 1 := by rw [et314]; exact kt_addc b313 kc_1 (by decide) (by decide)
                        have hg316 : t314.toInt = ((ik287 + 1 : Nat) : Int) := by rw [qt314, hg289]; omega
                        refine va_put (D := D) (ci := 4) (v := .int t314) (ty := .int) (C := RX4) (T := TX4) (N := 7) hx hb hg inC4 tyX4 tyX4_ok nmX4 hown hK hP hD hS 50 rfl rfl 4 (by decide) (hg _ wt2_69) (fun _ h9 => h9) rfl (by decide +kernel) rfl rfl (Nat.le_of_ble_eq_true rfl) dX4_readPlain_181 (fun H locs hP hD hS => ?_)
                        have hP : va_P D vwCl (xX K r (upd f283 1604 t314) a284 g285 tx) H := hP
                        have hD : va_D A (xX K r (upd f283 1604 t314) a284 g285 tx) := hD
                        refine k_gen (P := fun z => va_P D vwCl (xX K r z a284 g285 tx) H ∧ va_D A (xX K r z a284 g285 tx) ∧ (xI z a284) ∧ (gOK K g285.2 tt) ∧ (xEk [12, 13, 14, 32, 38, 44, 49, 50, 832, 838, 844, 849, 850, 1603, 1606, 1632] f a g z a284 g285) ∧ (xQ z a284 N ob T pl)) (upd f283 1604 t314) ⟨hP, hD, (xI_f hI (fI_st hI.1 1604 (kb_any _) (by decide) (by decide))), hG, (xEk_f hE (by decide)), (xQ_f hk0 (by decide) (by decide))⟩ (fun f_317 ef_317 hq => ?_)
                        obtain ⟨hP, hD, hI, hG, hE, hk0⟩ := hq
                        refine lv_aload_n hx hb dX4_readPlain_184 rfl (lv_at hl 2 rfl) ?_
                        refine lv_iload_n hx hb dX4_readPlain_185 rfl (lv_at hl 3 rfl) ?_
                        refine kIG.callW (As := [.int dp]) (rest := []) ⟨hx, hb, hml, hown, hg⟩ (hsum l r f_317 a284 g285 tx tt hT hI hG dp bdp N (ik287 + 1) (nk287) ob T pl hk0 (by rw [(show f_317 1604 = t314 from by rw [← ef_317]; rfl)]; exact hg316) hlt312 ⟨(by rw [((show f_317 1605 = f283 1605 from by rw [← ef_317]; rfl).trans ez291.symm)]; exact hzz291), h3k287.2⟩ hp4) (cwV 1 hg (kgV wt4_6 wt4_8 wp1_13 wt1_7 wt4_9) rfl rfl rfl (by decide +kernel) ⟨by dsimp only [rmD]; omega, by dsimp only [rmD]; omega⟩) hV hK hP hD hS hA (50) 4 rfl rfl rfl hl.1 rfl (Nat.le_of_ble_eq_true rfl) dX4_readPlain_186 ⟨Nat.le_refl _, Nat.le_refl _⟩ (fun v319 u320 H locs hw318 hP hD hS => ?_)
                        obtain ⟨f321, a322, g323⟩ := u320
                        have hP : va_P D vwCl (xX K r f321 a322 g323 tx) H := hP
                        have hD : va_D A (xX K r f321 a322 g323 tx) := hD
                        have hI : xI f321 a322 := hw318.2.1
                        have hG : gOK K g323.2 tt := hw318.2.2.1
                        have eE324 : xEk [12, 13, 14, 32, 38, 44, 49, 50, 832, 838, 844, 849, 850, 1603, 1606, 1632] f_317 a284 g285 f321 a322 g323 := hw318.2.2.2.1
                        have hE : xEk [12, 13, 14, 32, 38, 44, 49, 50, 832, 838, 844, 849, 850, 1603, 1606, 1632] f a g f321 a322 g323 := xEk_tr hE eE324
                        have hk0 : xQ f321 a322 N ob T pl := hw318.2.2.2.2.1
                        obtain ⟨ik325, nk325, hgk325, hlek325, hNk325, hck325⟩ := hw318.2.2.2.2.2
                        rcases hck325 with ⟨hvk325, h3k325, hltk325, hGk325⟩ | ⟨hvk325, hGk325⟩
                        · refine k_top (z := 1) hvk325 ?_
                          obtain ⟨gv326, egv326⟩ : ∃ z : Int32, z = f321 1604 := ⟨_, rfl⟩
                          have hg327 : gv326.toInt = ((ik325 : Nat) : Int) := by rw [egv326]; exact hgk325
                          have b328 : kb 0 gv326 400 := kb_pos hNk325 hN4 hg327
                          obtain ⟨z329, ez329⟩ : ∃ z : Int32, z = f321 1605 := ⟨_, rfl⟩
                          have hzz329 : z329.toInt = ((nk325 : Nat) : Int) := by rw [ez329]; exact h3k325.1
                          have b330 : kb 0 z329 50 := ⟨by omega, by have w1 := h3k325.2; omega⟩
                          refine lv_if_ne (tgt := 194) hx hb dX4_readPlain_189 (by decide) (fun c331 => ?_) (fun c331 => ?_)
                          · refine lv_aload_n hx hb dX4_readPlain_194 rfl (lv_at hl 2 rfl) ?_
                            refine va_get (D := D) (ci := 4) (v := .ref (r 51)) (C := RX4) (T := TX4) (N := 7) hx hb hg inC4 hown hK hP 50 rfl rfl 0 (by decide) (hg _ wt2_64) (fun _ h9 => h9) rfl dX4_readPlain_195 ?_
                            refine lv_iload_n hx hb dX4_readPlain_198 rfl (lv_at hl 0 rfl) ?_
                            refine lv_iconst (v := 0) hx hb dX4_readPlain_199 (by decide) ?_
                            refine kIG.callW (As := [.int 12, .int 0]) (rest := []) ⟨hx, hb, hml, hown, hg⟩ (y_emit l r f321 a322 g323 tx tt hT hI hG 12 0 (kb_w kc_12 (by decide) (by decide)) ) (cwV 2 hg (kgV wt4_14 wt4_15 wt4_16 wt1_8 wt4_17) rfl rfl rfl (by decide +kernel) ⟨by dsimp only [rmD]; omega, by dsimp only [rmD]; omega⟩) hV hK hP hD hS hA (51) 10 rfl rfl rfl hl.1 rfl (Nat.le_of_ble_eq_true rfl) dX4_readPlain_200 ⟨Nat.le_refl _, Nat.le_refl _⟩ (fun v333 u334 H locs hw332 hP hD hS => ?_)
                            obtain ⟨f335, a336, g337⟩ := u334
                            have hP : va_P D vwCl (xX K r f335 a336 g337 tx) H := hP
                            have hD : va_D A (xX K r f335 a336 g337 tx) := hD
                            have hI : xI f335 a336 := hw332.2.1
                            have hG : gOK K g337.2 tt := hw332.2.2.1
                            have eE338 : xEk [12, 13, 14, 32, 38, 44, 49, 50, 832, 838, 844, 849, 850, 1603, 1604, 1605, 1606, 1632] f321 a322 g323 f335 a336 g337 := hw332.2.2.2.1
                            have hE : xEk [12, 13, 14, 32, 38, 44, 49, 50, 832, 838, 844, 849, 850, 1603, 1606, 1632] f a g f335 a336 g337 := xEk_tr hE (xEk_w (by decide) eE338)
                            have hk0 : xQ f335 a336 N ob T pl := xQ_c hk0 (eE338.1 1603 rfl) (eE338.1 1606 rfl) hw332.2.2.2.2
                            refine lv_pop hx hb dX4_readPlain_203 rfl ?_
                            refine lv_aload_n hx hb dX4_readPlain_204 rfl (lv_at hl 2 rfl) ?_
                            refine lv_iload_n hx hb dX4_readPlain_205 rfl (lv_at hl 1 rfl) ?_
                            refine lv_if_eq (tgt := 213) hx hb dX4_readPlain_206 (by decide) (fun c339 => ?_) (fun c339 => ?_)
                            · have b340 : kb 0 y4 0 := kb_eq c339 kc_0
                              refine lv_iconst (v := (-1)) hx hb dX4_readPlain_213 (by decide) ?_
                              refine kVG.callW (As := [.int (-1)]) (rest := []) ⟨hx, hb, hml, hown, hg⟩ (y_emitIfAny l r f335 a336 g337 tx tt hT hI hG (-1) (kb_w kc_m1 (by decide) (by decide)) ) (cwV 1 hg (kgV wt4_26 wt4_28 wp2_1 wt1_7 wt4_29) rfl rfl rfl (by decide +kernel) ⟨by dsimp only [rmD]; omega, by dsimp only [rmD]; omega⟩) hV hK hP hD hS hA (50) 4 rfl rfl rfl hl.1 rfl (Nat.le_of_ble_eq_true rfl) dX4_readPlain_214 ⟨Nat.le_refl _, Nat.le_refl _⟩ (fun u343 H locs hw341 hP hD hS => ?_)
                              obtain ⟨f344, a345, g346⟩ := u343
                              have hP : va_P D vwCl (xX K r f344 a345 g346 tx) H := hP
                              have hD : va_D A (xX K r f344 a345 g346 tx) := hD
                              have hI : xI f344 a345 := hw341.1
                              have hG : gOK K g346.2 tt := hw341.2.1
                              have eE347 : xEk [12, 13, 14, 32, 38, 44, 49, 50, 832, 838, 844, 849, 850, 1603, 1604, 1605, 1606, 1632] f335 a336 g337 f344 a345 g346 := hw341.2.2.1
                              have hE : xEk [12, 13, 14, 32, 38, 44, 49, 50, 832, 838, 844, 849, 850, 1603, 1606, 1632] f a g f344 a345 g346 := xEk_tr hE (xEk_w (by decide) eE347)
                              have hk0 : xQ f344 a345 N ob T pl := xQ_c hk0 (eE347.1 1603 rfl) (eE347.1 1606 rfl) hw341.2.2.2
                              refine lv_iconst (v := 1) hx hb dX4_readPlain_217 (by decide) ?_
                              exact kI_ret (v := 1) hx hb hr hlocks (by decide +kernel) hK hS dX4_readPlain_218 (f344, a345, g346) hP hD ⟨(kb_w kc_1 (by decide) (by decide)), hI, hG, hE, hk0, ⟨ik325, nk325, (by show (f344 1604).toInt = ((ik325 : Nat) : Int); rw [((eE347.1 1604 rfl).trans ((eE338.1 1604 rfl).trans egv326.symm))]; exact hg327), (Nat.le_trans (Nat.le_succ_of_le (Nat.le_trans (Nat.le_trans (Nat.le_add_right _ _) hvlp6_1.1) hlek287)) hlek325), hNk325, Or.inl ⟨rfl, ⟨(by show (f344 1605).toInt = ((nk325 : Nat) : Int); rw [((eE347.1 1605 rfl).trans ((eE338.1 1605 rfl).trans ez329.symm))]; exact hzz329), h3k325.2⟩, (by omega), xc _ (pi_5n hn8 (pi_10c (fun q => c279 (hw275.2.trans q)) hGk287 (Or.inr (Or.inr (hw304.2.symm.trans c308))) hGk325))⟩⟩⟩
                            · have b348 : kb 1 y4 1 := kr_nel c339 b9 kc_0 (by decide)
                              refine lv_iconst (v := 2) hx hb dX4_readPlain_209 (by decide) ?_
                              refine lv_goto (tgt := 214) hx hb dX4_readPlain_210 (by decide) ?_
                              refine kVG.callW (As := [.int 2]) (rest := []) ⟨hx, hb, hml, hown, hg⟩ (y_emitIfAny l r f335 a336 g337 tx tt hT hI hG 2 (kb_w kc_2 (by decide) (by decide)) ) (cwV 1 hg (kgV wt4_26 wt4_28 wp2_1 wt1_7 wt4_29) rfl rfl rfl (by decide +kernel) ⟨by dsimp only [rmD]; omega, by dsimp only [rmD]; omega⟩) hV hK hP hD hS hA (50) 4 rfl rfl rfl hl.1 rfl (Nat.le_of_ble_eq_true rfl) dX4_readPlain_214 ⟨Nat.le_refl _, Nat.le_refl _⟩ (fun u351 H locs hw349 hP hD hS => ?_)
                              obtain ⟨f352, a353, g354⟩ := u351
                              have hP : va_P D vwCl (xX K r f352 a353 g354 tx) H := hP
                              have hD : va_D A (xX K r f352 a353 g354 tx) := hD
                              have hI : xI f352 a353 := hw349.1
                              have hG : gOK K g354.2 tt := hw349.2.1
                              have eE355 : xEk [12, 13, 14, 32, 38, 44, 49, 50, 832, 838, 844, 849, 850, 1603, 1604, 1605, 1606, 1632] f335 a336 g337 f352 a353 g354 := hw349.2.2.1
                              have hE : xEk [12, 13, 14, 32, 38, 44, 49, 50, 832, 838, 844, 849, 850, 1603, 1606, 1632] f a g f352 a353 g354 := xEk_tr hE (xEk_w (by decide) eE355)
                              have hk0 : xQ f352 a353 N ob T pl := xQ_c hk0 (eE355.1 1603 rfl) (eE355.1 1606 rfl) hw349.2.2.2
                              refine lv_iconst (v := 1) hx hb dX4_readPlain_217 (by decide) ?_
                              exact kI_ret (v := 1) hx hb hr hlocks (by decide +kernel) hK hS dX4_readPlain_218 (f352, a353, g354) hP hD ⟨(kb_w kc_1 (by decide) (by decide)), hI, hG, hE, hk0, ⟨ik325, nk325, (by show (f352 1604).toInt = ((ik325 : Nat) : Int); rw [((eE355.1 1604 rfl).trans ((eE338.1 1604 rfl).trans egv326.symm))]; exact hg327), (Nat.le_trans (Nat.le_succ_of_le (Nat.le_trans (Nat.le_trans (Nat.le_add_right _ _) hvlp6_1.1) hlek287)) hlek325), hNk325, Or.inl ⟨rfl, ⟨(by show (f352 1605).toInt = ((nk325 : Nat) : Int); rw [((eE355.1 1605 rfl).trans ((eE338.1 1605 rfl).trans ez329.symm))]; exact hzz329), h3k325.2⟩, (by omega), xc _ (pi_5n hn8 (pi_10c (fun q => c279 (hw275.2.trans q)) hGk287 (Or.inr (Or.inr (hw304.2.symm.trans c308))) hGk325))⟩⟩⟩
                          · exact kb_dj c331 kc_1 kc_0 (by decide)
                        · refine k_top (z := 0) hvk325 ?_
                          obtain ⟨gv356, egv356⟩ : ∃ z : Int32, z = f321 1604 := ⟨_, rfl⟩
                          have hg357 : gv356.toInt = ((ik325 : Nat) : Int) := by rw [egv356]; exact hgk325
                          have b358 : kb 0 gv356 400 := kb_pos hNk325 hN4 hg357
                          refine lv_if_ne (tgt := 194) hx hb dX4_readPlain_189 (by decide) (fun c359 => ?_) (fun c359 => ?_)
                          · exact kb_nsame c359 kc_0 kc_0
                          · refine lv_iconst (v := 0) hx hb dX4_readPlain_192 (by decide) ?_
                            exact kI_ret (v := 0) hx hb hr hlocks (by decide +kernel) hK hS dX4_readPlain_193 (f321, a322, g323) hP hD ⟨(kb_w kc_0 (by decide) (by decide)), hI, hG, hE, hk0, ⟨ik325, 0, (by show (f321 1604).toInt = ((ik325 : Nat) : Int); rw [egv356.symm]; exact hg357), (Nat.le_trans (Nat.le_succ_of_le (Nat.le_trans (Nat.le_trans (Nat.le_add_right _ _) hvlp6_1.1) hlek287)) hlek325), hNk325, Or.inr ⟨rfl, xc _ (pi_5n hn8 (pi_10c (fun q => c279 (hw275.2.trans q)) hGk287 (Or.inr (Or.inr (hw304.2.symm.trans c308))) hGk325))⟩⟩⟩
                      · exact kb_dj c311 kc_12 kc_m1 (by decide)
                  · have b360 : kb 3062 v300 3062 := kb_eq c303 kc_3062
                    refine lv_bipush (v := 11) hx hb dX4_readPlain_145 (by decide) ?_
                    refine lv_goto (tgt := 166) hx hb dX4_readPlain_147 (by decide) ?_
                    refine lv_istore_n (lv' := [(3, .int 11), (2, .int y4), (0, .ref (r 50)), (1, .int dp)]) hx hb dX4_readPlain_166 rfl hl (by decide) rfl (fun ls hl => ?_)
                    refine lv_iload_n hx hb dX4_readPlain_167 rfl (lv_at hl 0 rfl) ?_
                    refine lv_iconst (v := (-1)) hx hb dX4_readPlain_168 (by decide) ?_
                    refine lv_icmp_ne (tgt := 174) hx hb dX4_readPlain_169 (by decide) (fun c361 => ?_) (fun c361 => ?_)
                    · refine lv_aload_n hx hb dX4_readPlain_174 rfl (lv_at hl 2 rfl) ?_
                      refine lv_dup hx hb dX4_readPlain_175 rfl ?_
                      have hlt362 : ik287 < N := xQ_lt hk0 (ne_4000 (hw299.2.symm.trans c303) (by decide +kernel))
                      have b363 : kb 0 gv288 399 := kb_pos1 hlt362 hN4 hg289
                      refine va_get (D := D) (ci := 4) (v := .int (f283 1604)) (C := RX4) (T := TX4) (N := 7) hx hb hg inC4 hown hK hP 50 rfl rfl 4 (by decide) (hg _ wt2_69) (fun _ h9 => h9) rfl dX4_readPlain_176 ?_
                      refine k_top (z := gv288) egv288.symm ?_
                      refine lv_iconst (v := 1) hx hb dX4_readPlain_179 (by decide) ?_
                      refine lv_iadd hx hb dX4_readPlain_180 ?_
                      refine lv_topi (fun t364 et364 => ?_)
                      have b365 : kb 1 t364 400 := kb_eq et364 (kb_add b363 kc_1 (by decide) (by decide))
                      have qt364 : t364.toInt = gv288.toInt + 1 := by rw [et364]; exact kt_addc b363 kc_1 (by decide) (by decide)
                      have hg366 : t364.toInt = ((ik287 + 1 : Nat) : Int) := by rw [qt364, hg289]; omega
                      refine va_put (D := D) (ci := 4) (v := .int t364) (ty := .int) (C := RX4) (T := TX4) (N := 7) hx hb hg inC4 tyX4 tyX4_ok nmX4 hown hK hP hD hS 50 rfl rfl 4 (by decide) (hg _ wt2_69) (fun _ h9 => h9) rfl (by decide +kernel) rfl rfl (Nat.le_of_ble_eq_true rfl) dX4_readPlain_181 (fun H locs hP hD hS => ?_)
                      have hP : va_P D vwCl (xX K r (upd f283 1604 t364) a284 g285 tx) H := hP
                      have hD : va_D A (xX K r (upd f283 1604 t364) a284 g285 tx) := hD
                      refine k_gen (P := fun z => va_P D vwCl (xX K r z a284 g285 tx) H ∧ va_D A (xX K r z a284 g285 tx) ∧ (xI z a284) ∧ (gOK K g285.2 tt) ∧ (xEk [12, 13, 14, 32, 38, 44, 49, 50, 832, 838, 844, 849, 850, 1603, 1606, 1632] f a g z a284 g285) ∧ (xQ z a284 N ob T pl)) (upd f283 1604 t364) ⟨hP, hD, (xI_f hI (fI_st hI.1 1604 (kb_any _) (by decide) (by decide))), hG, (xEk_f hE (by decide)), (xQ_f hk0 (by decide) (by decide))⟩ (fun f_367 ef_367 hq => ?_)
                      obtain ⟨hP, hD, hI, hG, hE, hk0⟩ := hq
                      refine lv_aload_n hx hb dX4_readPlain_184 rfl (lv_at hl 2 rfl) ?_
                      refine lv_iload_n hx hb dX4_readPlain_185 rfl (lv_at hl 3 rfl) ?_
                      refine kIG.callW (As := [.int dp]) (rest := []) ⟨hx, hb, hml, hown, hg⟩ (hsum l r f_367 a284 g285 tx tt hT hI hG dp bdp N (ik287 + 1) (nk287) ob T pl hk0 (by rw [(show f_367 1604 = t364 from by rw [← ef_367]; rfl)]; exact hg366) hlt362 ⟨(by rw [((show f_367 1605 = f283 1605 from by rw [← ef_367]; rfl).trans ez291.symm)]; exact hzz291), h3k287.2⟩ hp4) (cwV 1 hg (kgV wt4_6 wt4_8 wp1_13 wt1_7 wt4_9) rfl rfl rfl (by decide +kernel) ⟨by dsimp only [rmD]; omega, by dsimp only [rmD]; omega⟩) hV hK hP hD hS hA (50) 4 rfl rfl rfl hl.1 rfl (Nat.le_of_ble_eq_true rfl) dX4_readPlain_186 ⟨Nat.le_refl _, Nat.le_refl _⟩ (fun v369 u370 H locs hw368 hP hD hS => ?_)
                      obtain ⟨f371, a372, g373⟩ := u370
                      have hP : va_P D vwCl (xX K r f371 a372 g373 tx) H := hP
                      have hD : va_D A (xX K r f371 a372 g373 tx) := hD
                      have hI : xI f371 a372 := hw368.2.1
                      have hG : gOK K g373.2 tt := hw368.2.2.1
                      have eE374 : xEk [12, 13, 14, 32, 38, 44, 49, 50, 832, 838, 844, 849, 850, 1603, 1606, 1632] f_367 a284 g285 f371 a372 g373 := hw368.2.2.2.1
                      have hE : xEk [12, 13, 14, 32, 38, 44, 49, 50, 832, 838, 844, 849, 850, 1603, 1606, 1632] f a g f371 a372 g373 := xEk_tr hE eE374
                      have hk0 : xQ f371 a372 N ob T pl := hw368.2.2.2.2.1
                      obtain ⟨ik375, nk375, hgk375, hlek375, hNk375, hck375⟩ := hw368.2.2.2.2.2
                      rcases hck375 with ⟨hvk375, h3k375, hltk375, hGk375⟩ | ⟨hvk375, hGk375⟩
                      · refine k_top (z := 1) hvk375 ?_
                        obtain ⟨gv376, egv376⟩ : ∃ z : Int32, z = f371 1604 := ⟨_, rfl⟩
                        have hg377 : gv376.toInt = ((ik375 : Nat) : Int) := by rw [egv376]; exact hgk375
                        have b378 : kb 0 gv376 400 := kb_pos hNk375 hN4 hg377
                        obtain ⟨z379, ez379⟩ : ∃ z : Int32, z = f371 1605 := ⟨_, rfl⟩
                        have hzz379 : z379.toInt = ((nk375 : Nat) : Int) := by rw [ez379]; exact h3k375.1
                        have b380 : kb 0 z379 50 := ⟨by omega, by have w1 := h3k375.2; omega⟩
                        refine lv_if_ne (tgt := 194) hx hb dX4_readPlain_189 (by decide) (fun c381 => ?_) (fun c381 => ?_)
                        · refine lv_aload_n hx hb dX4_readPlain_194 rfl (lv_at hl 2 rfl) ?_
                          refine va_get (D := D) (ci := 4) (v := .ref (r 51)) (C := RX4) (T := TX4) (N := 7) hx hb hg inC4 hown hK hP 50 rfl rfl 0 (by decide) (hg _ wt2_64) (fun _ h9 => h9) rfl dX4_readPlain_195 ?_
                          refine lv_iload_n hx hb dX4_readPlain_198 rfl (lv_at hl 0 rfl) ?_
                          refine lv_iconst (v := 0) hx hb dX4_readPlain_199 (by decide) ?_
                          refine kIG.callW (As := [.int 11, .int 0]) (rest := []) ⟨hx, hb, hml, hown, hg⟩ (y_emit l r f371 a372 g373 tx tt hT hI hG 11 0 (kb_w kc_11 (by decide) (by decide)) ) (cwV 2 hg (kgV wt4_14 wt4_15 wt4_16 wt1_8 wt4_17) rfl rfl rfl (by decide +kernel) ⟨by dsimp only [rmD]; omega, by dsimp only [rmD]; omega⟩) hV hK hP hD hS hA (51) 10 rfl rfl rfl hl.1 rfl (Nat.le_of_ble_eq_true rfl) dX4_readPlain_200 ⟨Nat.le_refl _, Nat.le_refl _⟩ (fun v383 u384 H locs hw382 hP hD hS => ?_)
                          obtain ⟨f385, a386, g387⟩ := u384
                          have hP : va_P D vwCl (xX K r f385 a386 g387 tx) H := hP
                          have hD : va_D A (xX K r f385 a386 g387 tx) := hD
                          have hI : xI f385 a386 := hw382.2.1
                          have hG : gOK K g387.2 tt := hw382.2.2.1
                          have eE388 : xEk [12, 13, 14, 32, 38, 44, 49, 50, 832, 838, 844, 849, 850, 1603, 1604, 1605, 1606, 1632] f371 a372 g373 f385 a386 g387 := hw382.2.2.2.1
                          have hE : xEk [12, 13, 14, 32, 38, 44, 49, 50, 832, 838, 844, 849, 850, 1603, 1606, 1632] f a g f385 a386 g387 := xEk_tr hE (xEk_w (by decide) eE388)
                          have hk0 : xQ f385 a386 N ob T pl := xQ_c hk0 (eE388.1 1603 rfl) (eE388.1 1606 rfl) hw382.2.2.2.2
                          refine lv_pop hx hb dX4_readPlain_203 rfl ?_
                          refine lv_aload_n hx hb dX4_readPlain_204 rfl (lv_at hl 2 rfl) ?_
                          refine lv_iload_n hx hb dX4_readPlain_205 rfl (lv_at hl 1 rfl) ?_
                          refine lv_if_eq (tgt := 213) hx hb dX4_readPlain_206 (by decide) (fun c389 => ?_) (fun c389 => ?_)
                          · have b390 : kb 0 y4 0 := kb_eq c389 kc_0
                            refine lv_iconst (v := (-1)) hx hb dX4_readPlain_213 (by decide) ?_
                            refine kVG.callW (As := [.int (-1)]) (rest := []) ⟨hx, hb, hml, hown, hg⟩ (y_emitIfAny l r f385 a386 g387 tx tt hT hI hG (-1) (kb_w kc_m1 (by decide) (by decide)) ) (cwV 1 hg (kgV wt4_26 wt4_28 wp2_1 wt1_7 wt4_29) rfl rfl rfl (by decide +kernel) ⟨by dsimp only [rmD]; omega, by dsimp only [rmD]; omega⟩) hV hK hP hD hS hA (50) 4 rfl rfl rfl hl.1 rfl (Nat.le_of_ble_eq_true rfl) dX4_readPlain_214 ⟨Nat.le_refl _, Nat.le_refl _⟩ (fun u393 H locs hw391 hP hD hS => ?_)
                            obtain ⟨f394, a395, g396⟩ := u393
                            have hP : va_P D vwCl (xX K r f394 a395 g396 tx) H := hP
                            have hD : va_D A (xX K r f394 a395 g396 tx) := hD
                            have hI : xI f394 a395 := hw391.1
                            have hG : gOK K g396.2 tt := hw391.2.1
                            have eE397 : xEk [12, 13, 14, 32, 38, 44, 49, 50, 832, 838, 844, 849, 850, 1603, 1604, 1605, 1606, 1632] f385 a386 g387 f394 a395 g396 := hw391.2.2.1
                            have hE : xEk [12, 13, 14, 32, 38, 44, 49, 50, 832, 838, 844, 849, 850, 1603, 1606, 1632] f a g f394 a395 g396 := xEk_tr hE (xEk_w (by decide) eE397)
                            have hk0 : xQ f394 a395 N ob T pl := xQ_c hk0 (eE397.1 1603 rfl) (eE397.1 1606 rfl) hw391.2.2.2
                            refine lv_iconst (v := 1) hx hb dX4_readPlain_217 (by decide) ?_
                            exact kI_ret (v := 1) hx hb hr hlocks (by decide +kernel) hK hS dX4_readPlain_218 (f394, a395, g396) hP hD ⟨(kb_w kc_1 (by decide) (by decide)), hI, hG, hE, hk0, ⟨ik375, nk375, (by show (f394 1604).toInt = ((ik375 : Nat) : Int); rw [((eE397.1 1604 rfl).trans ((eE388.1 1604 rfl).trans egv376.symm))]; exact hg377), (Nat.le_trans (Nat.le_succ_of_le (Nat.le_trans (Nat.le_trans (Nat.le_add_right _ _) hvlp6_1.1) hlek287)) hlek375), hNk375, Or.inl ⟨rfl, ⟨(by show (f394 1605).toInt = ((nk375 : Nat) : Int); rw [((eE397.1 1605 rfl).trans ((eE388.1 1605 rfl).trans ez379.symm))]; exact hzz379), h3k375.2⟩, (by omega), xc _ (pi_5n hn8 (pi_10c (fun q => c279 (hw275.2.trans q)) hGk287 (Or.inr (Or.inl (hw299.2.symm.trans c303))) hGk375))⟩⟩⟩
                          · have b398 : kb 1 y4 1 := kr_nel c389 b9 kc_0 (by decide)
                            refine lv_iconst (v := 2) hx hb dX4_readPlain_209 (by decide) ?_
                            refine lv_goto (tgt := 214) hx hb dX4_readPlain_210 (by decide) ?_
                            refine kVG.callW (As := [.int 2]) (rest := []) ⟨hx, hb, hml, hown, hg⟩ (y_emitIfAny l r f385 a386 g387 tx tt hT hI hG 2 (kb_w kc_2 (by decide) (by decide)) ) (cwV 1 hg (kgV wt4_26 wt4_28 wp2_1 wt1_7 wt4_29) rfl rfl rfl (by decide +kernel) ⟨by dsimp only [rmD]; omega, by dsimp only [rmD]; omega⟩) hV hK hP hD hS hA (50) 4 rfl rfl rfl hl.1 rfl (Nat.le_of_ble_eq_true rfl) dX4_readPlain_214 ⟨Nat.le_refl _, Nat.le_refl _⟩ (fun u401 H locs hw399 hP hD hS => ?_)
                            obtain ⟨f402, a403, g404⟩ := u401
                            have hP : va_P D vwCl (xX K r f402 a403 g404 tx) H := hP
                            have hD : va_D A (xX K r f402 a403 g404 tx) := hD
                            have hI : xI f402 a403 := hw399.1
                            have hG : gOK K g404.2 tt := hw399.2.1
                            have eE405 : xEk [12, 13, 14, 32, 38, 44, 49, 50, 832, 838, 844, 849, 850, 1603, 1604, 1605, 1606, 1632] f385 a386 g387 f402 a403 g404 := hw399.2.2.1
                            have hE : xEk [12, 13, 14, 32, 38, 44, 49, 50, 832, 838, 844, 849, 850, 1603, 1606, 1632] f a g f402 a403 g404 := xEk_tr hE (xEk_w (by decide) eE405)
                            have hk0 : xQ f402 a403 N ob T pl := xQ_c hk0 (eE405.1 1603 rfl) (eE405.1 1606 rfl) hw399.2.2.2
                            refine lv_iconst (v := 1) hx hb dX4_readPlain_217 (by decide) ?_
                            exact kI_ret (v := 1) hx hb hr hlocks (by decide +kernel) hK hS dX4_readPlain_218 (f402, a403, g404) hP hD ⟨(kb_w kc_1 (by decide) (by decide)), hI, hG, hE, hk0, ⟨ik375, nk375, (by show (f402 1604).toInt = ((ik375 : Nat) : Int); rw [((eE405.1 1604 rfl).trans ((eE388.1 1604 rfl).trans egv376.symm))]; exact hg377), (Nat.le_trans (Nat.le_succ_of_le (Nat.le_trans (Nat.le_trans (Nat.le_add_right _ _) hvlp6_1.1) hlek287)) hlek375), hNk375, Or.inl ⟨rfl, ⟨(by show (f402 1605).toInt = ((nk375 : Nat) : Int); rw [((eE405.1 1605 rfl).trans ((eE388.1 1605 rfl).trans ez379.symm))]; exact hzz379), h3k375.2⟩, (by omega), xc _ (pi_5n hn8 (pi_10c (fun q => c279 (hw275.2.trans q)) hGk287 (Or.inr (Or.inl (hw299.2.symm.trans c303))) hGk375))⟩⟩⟩
                        · exact kb_dj c381 kc_1 kc_0 (by decide)
                      · refine k_top (z := 0) hvk375 ?_
                        obtain ⟨gv406, egv406⟩ : ∃ z : Int32, z = f371 1604 := ⟨_, rfl⟩
                        have hg407 : gv406.toInt = ((ik375 : Nat) : Int) := by rw [egv406]; exact hgk375
                        have b408 : kb 0 gv406 400 := kb_pos hNk375 hN4 hg407
                        refine lv_if_ne (tgt := 194) hx hb dX4_readPlain_189 (by decide) (fun c409 => ?_) (fun c409 => ?_)
                        · exact kb_nsame c409 kc_0 kc_0
                        · refine lv_iconst (v := 0) hx hb dX4_readPlain_192 (by decide) ?_
                          exact kI_ret (v := 0) hx hb hr hlocks (by decide +kernel) hK hS dX4_readPlain_193 (f371, a372, g373) hP hD ⟨(kb_w kc_0 (by decide) (by decide)), hI, hG, hE, hk0, ⟨ik375, 0, (by show (f371 1604).toInt = ((ik375 : Nat) : Int); rw [egv406.symm]; exact hg407), (Nat.le_trans (Nat.le_succ_of_le (Nat.le_trans (Nat.le_trans (Nat.le_add_right _ _) hvlp6_1.1) hlek287)) hlek375), hNk375, Or.inr ⟨rfl, xc _ (pi_5n hn8 (pi_10c (fun q => c279 (hw275.2.trans q)) hGk287 (Or.inr (Or.inl (hw299.2.symm.trans c303))) hGk375))⟩⟩⟩
                    · exact kb_dj c361 kc_11 kc_m1 (by decide)
                · have b410 : kb 3060 v295 3060 := kb_eq c298 kc_3060
                  refine lv_bipush (v := 10) hx hb dX4_readPlain_130 (by decide) ?_
                  refine lv_goto (tgt := 166) hx hb dX4_readPlain_132 (by decide) ?_
                  refine lv_istore_n (lv' := [(3, .int 10), (2, .int y4), (0, .ref (r 50)), (1, .int dp)]) hx hb dX4_readPlain_166 rfl hl (by decide) rfl (fun ls hl => ?_)
                  refine lv_iload_n hx hb dX4_readPlain_167 rfl (lv_at hl 0 rfl) ?_
                  refine lv_iconst (v := (-1)) hx hb dX4_readPlain_168 (by decide) ?_
                  refine lv_icmp_ne (tgt := 174) hx hb dX4_readPlain_169 (by decide) (fun c411 => ?_) (fun c411 => ?_)
                  · refine lv_aload_n hx hb dX4_readPlain_174 rfl (lv_at hl 2 rfl) ?_
                    refine lv_dup hx hb dX4_readPlain_175 rfl ?_
                    have hlt412 : ik287 < N := xQ_lt hk0 (ne_4000 (hw294.2.symm.trans c298) (by decide +kernel))
                    have b413 : kb 0 gv288 399 := kb_pos1 hlt412 hN4 hg289
                    refine va_get (D := D) (ci := 4) (v := .int (f283 1604)) (C := RX4) (T := TX4) (N := 7) hx hb hg inC4 hown hK hP 50 rfl rfl 4 (by decide) (hg _ wt2_69) (fun _ h9 => h9) rfl dX4_readPlain_176 ?_
                    refine k_top (z := gv288) egv288.symm ?_
                    refine lv_iconst (v := 1) hx hb dX4_readPlain_179 (by decide) ?_
                    refine lv_iadd hx hb dX4_readPlain_180 ?_
                    refine lv_topi (fun t414 et414 => ?_)
                    have b415 : kb 1 t414 400 := kb_eq et414 (kb_add b413 kc_1 (by decide) (by decide))
                    have qt414 : t414.toInt = gv288.toInt + 1 := by rw [et414]; exact kt_addc b413 kc_1 (by decide) (by decide)
                    have hg416 : t414.toInt = ((ik287 + 1 : Nat) : Int) := by rw [qt414, hg289]; omega
                    refine va_put (D := D) (ci := 4) (v := .int t414) (ty := .int) (C := RX4) (T := TX4) (N := 7) hx hb hg inC4 tyX4 tyX4_ok nmX4 hown hK hP hD hS 50 rfl rfl 4 (by decide) (hg _ wt2_69) (fun _ h9 => h9) rfl (by decide +kernel) rfl rfl (Nat.le_of_ble_eq_true rfl) dX4_readPlain_181 (fun H locs hP hD hS => ?_)
                    have hP : va_P D vwCl (xX K r (upd f283 1604 t414) a284 g285 tx) H := hP
                    have hD : va_D A (xX K r (upd f283 1604 t414) a284 g285 tx) := hD
                    refine k_gen (P := fun z => va_P D vwCl (xX K r z a284 g285 tx) H ∧ va_D A (xX K r z a284 g285 tx) ∧ (xI z a284) ∧ (gOK K g285.2 tt) ∧ (xEk [12, 13, 14, 32, 38, 44, 49, 50, 832, 838, 844, 849, 850, 1603, 1606, 1632] f a g z a284 g285) ∧ (xQ z a284 N ob T pl)) (upd f283 1604 t414) ⟨hP, hD, (xI_f hI (fI_st hI.1 1604 (kb_any _) (by decide) (by decide))), hG, (xEk_f hE (by decide)), (xQ_f hk0 (by decide) (by decide))⟩ (fun f_417 ef_417 hq => ?_)
                    obtain ⟨hP, hD, hI, hG, hE, hk0⟩ := hq
                    refine lv_aload_n hx hb dX4_readPlain_184 rfl (lv_at hl 2 rfl) ?_
                    refine lv_iload_n hx hb dX4_readPlain_185 rfl (lv_at hl 3 rfl) ?_
                    refine kIG.callW (As := [.int dp]) (rest := []) ⟨hx, hb, hml, hown, hg⟩ (hsum l r f_417 a284 g285 tx tt hT hI hG dp bdp N (ik287 + 1) (nk287) ob T pl hk0 (by rw [(show f_417 1604 = t414 from by rw [← ef_417]; rfl)]; exact hg416) hlt412 ⟨(by rw [((show f_417 1605 = f283 1605 from by rw [← ef_417]; rfl).trans ez291.symm)]; exact hzz291), h3k287.2⟩ hp4) (cwV 1 hg (kgV wt4_6 wt4_8 wp1_13 wt1_7 wt4_9) rfl rfl rfl (by decide +kernel) ⟨by dsimp only [rmD]; omega, by dsimp only [rmD]; omega⟩) hV hK hP hD hS hA (50) 4 rfl rfl rfl hl.1 rfl (Nat.le_of_ble_eq_true rfl) dX4_readPlain_186 ⟨Nat.le_refl _, Nat.le_refl _⟩ (fun v419 u420 H locs hw418 hP hD hS => ?_)
                    obtain ⟨f421, a422, g423⟩ := u420
                    have hP : va_P D vwCl (xX K r f421 a422 g423 tx) H := hP
                    have hD : va_D A (xX K r f421 a422 g423 tx) := hD
                    have hI : xI f421 a422 := hw418.2.1
                    have hG : gOK K g423.2 tt := hw418.2.2.1
                    have eE424 : xEk [12, 13, 14, 32, 38, 44, 49, 50, 832, 838, 844, 849, 850, 1603, 1606, 1632] f_417 a284 g285 f421 a422 g423 := hw418.2.2.2.1
                    have hE : xEk [12, 13, 14, 32, 38, 44, 49, 50, 832, 838, 844, 849, 850, 1603, 1606, 1632] f a g f421 a422 g423 := xEk_tr hE eE424
                    have hk0 : xQ f421 a422 N ob T pl := hw418.2.2.2.2.1
                    obtain ⟨ik425, nk425, hgk425, hlek425, hNk425, hck425⟩ := hw418.2.2.2.2.2
                    rcases hck425 with ⟨hvk425, h3k425, hltk425, hGk425⟩ | ⟨hvk425, hGk425⟩
                    · refine k_top (z := 1) hvk425 ?_
                      obtain ⟨gv426, egv426⟩ : ∃ z : Int32, z = f421 1604 := ⟨_, rfl⟩
                      have hg427 : gv426.toInt = ((ik425 : Nat) : Int) := by rw [egv426]; exact hgk425
                      have b428 : kb 0 gv426 400 := kb_pos hNk425 hN4 hg427
                      obtain ⟨z429, ez429⟩ : ∃ z : Int32, z = f421 1605 := ⟨_, rfl⟩
                      have hzz429 : z429.toInt = ((nk425 : Nat) : Int) := by rw [ez429]; exact h3k425.1
                      have b430 : kb 0 z429 50 := ⟨by omega, by have w1 := h3k425.2; omega⟩
                      refine lv_if_ne (tgt := 194) hx hb dX4_readPlain_189 (by decide) (fun c431 => ?_) (fun c431 => ?_)
                      · refine lv_aload_n hx hb dX4_readPlain_194 rfl (lv_at hl 2 rfl) ?_
                        refine va_get (D := D) (ci := 4) (v := .ref (r 51)) (C := RX4) (T := TX4) (N := 7) hx hb hg inC4 hown hK hP 50 rfl rfl 0 (by decide) (hg _ wt2_64) (fun _ h9 => h9) rfl dX4_readPlain_195 ?_
                        refine lv_iload_n hx hb dX4_readPlain_198 rfl (lv_at hl 0 rfl) ?_
                        refine lv_iconst (v := 0) hx hb dX4_readPlain_199 (by decide) ?_
                        refine kIG.callW (As := [.int 10, .int 0]) (rest := []) ⟨hx, hb, hml, hown, hg⟩ (y_emit l r f421 a422 g423 tx tt hT hI hG 10 0 (kb_w kc_10 (by decide) (by decide)) ) (cwV 2 hg (kgV wt4_14 wt4_15 wt4_16 wt1_8 wt4_17) rfl rfl rfl (by decide +kernel) ⟨by dsimp only [rmD]; omega, by dsimp only [rmD]; omega⟩) hV hK hP hD hS hA (51) 10 rfl rfl rfl hl.1 rfl (Nat.le_of_ble_eq_true rfl) dX4_readPlain_200 ⟨Nat.le_refl _, Nat.le_refl _⟩ (fun v433 u434 H locs hw432 hP hD hS => ?_)
                        obtain ⟨f435, a436, g437⟩ := u434
                        have hP : va_P D vwCl (xX K r f435 a436 g437 tx) H := hP
                        have hD : va_D A (xX K r f435 a436 g437 tx) := hD
                        have hI : xI f435 a436 := hw432.2.1
                        have hG : gOK K g437.2 tt := hw432.2.2.1
                        have eE438 : xEk [12, 13, 14, 32, 38, 44, 49, 50, 832, 838, 844, 849, 850, 1603, 1604, 1605, 1606, 1632] f421 a422 g423 f435 a436 g437 := hw432.2.2.2.1
                        have hE : xEk [12, 13, 14, 32, 38, 44, 49, 50, 832, 838, 844, 849, 850, 1603, 1606, 1632] f a g f435 a436 g437 := xEk_tr hE (xEk_w (by decide) eE438)
                        have hk0 : xQ f435 a436 N ob T pl := xQ_c hk0 (eE438.1 1603 rfl) (eE438.1 1606 rfl) hw432.2.2.2.2
                        refine lv_pop hx hb dX4_readPlain_203 rfl ?_
                        refine lv_aload_n hx hb dX4_readPlain_204 rfl (lv_at hl 2 rfl) ?_
                        refine lv_iload_n hx hb dX4_readPlain_205 rfl (lv_at hl 1 rfl) ?_
                        refine lv_if_eq (tgt := 213) hx hb dX4_readPlain_206 (by decide) (fun c439 => ?_) (fun c439 => ?_)
                        · have b440 : kb 0 y4 0 := kb_eq c439 kc_0
                          refine lv_iconst (v := (-1)) hx hb dX4_readPlain_213 (by decide) ?_
                          refine kVG.callW (As := [.int (-1)]) (rest := []) ⟨hx, hb, hml, hown, hg⟩ (y_emitIfAny l r f435 a436 g437 tx tt hT hI hG (-1) (kb_w kc_m1 (by decide) (by decide)) ) (cwV 1 hg (kgV wt4_26 wt4_28 wp2_1 wt1_7 wt4_29) rfl rfl rfl (by decide +kernel) ⟨by dsimp only [rmD]; omega, by dsimp only [rmD]; omega⟩) hV hK hP hD hS hA (50) 4 rfl rfl rfl hl.1 rfl (Nat.le_of_ble_eq_true rfl) dX4_readPlain_214 ⟨Nat.le_refl _, Nat.le_refl _⟩ (fun u443 H locs hw441 hP hD hS => ?_)
                          obtain ⟨f444, a445, g446⟩ := u443
                          have hP : va_P D vwCl (xX K r f444 a445 g446 tx) H := hP
                          have hD : va_D A (xX K r f444 a445 g446 tx) := hD
                          have hI : xI f444 a445 := hw441.1
                          have hG : gOK K g446.2 tt := hw441.2.1
                          have eE447 : xEk [12, 13, 14, 32, 38, 44, 49, 50, 832, 838, 844, 849, 850, 1603, 1604, 1605, 1606, 1632] f435 a436 g437 f444 a445 g446 := hw441.2.2.1
                          have hE : xEk [12, 13, 14, 32, 38, 44, 49, 50, 832, 838, 844, 849, 850, 1603, 1606, 1632] f a g f444 a445 g446 := xEk_tr hE (xEk_w (by decide) eE447)
                          have hk0 : xQ f444 a445 N ob T pl := xQ_c hk0 (eE447.1 1603 rfl) (eE447.1 1606 rfl) hw441.2.2.2
                          refine lv_iconst (v := 1) hx hb dX4_readPlain_217 (by decide) ?_
                          exact kI_ret (v := 1) hx hb hr hlocks (by decide +kernel) hK hS dX4_readPlain_218 (f444, a445, g446) hP hD ⟨(kb_w kc_1 (by decide) (by decide)), hI, hG, hE, hk0, ⟨ik425, nk425, (by show (f444 1604).toInt = ((ik425 : Nat) : Int); rw [((eE447.1 1604 rfl).trans ((eE438.1 1604 rfl).trans egv426.symm))]; exact hg427), (Nat.le_trans (Nat.le_succ_of_le (Nat.le_trans (Nat.le_trans (Nat.le_add_right _ _) hvlp6_1.1) hlek287)) hlek425), hNk425, Or.inl ⟨rfl, ⟨(by show (f444 1605).toInt = ((nk425 : Nat) : Int); rw [((eE447.1 1605 rfl).trans ((eE438.1 1605 rfl).trans ez429.symm))]; exact hzz429), h3k425.2⟩, (by omega), xc _ (pi_5n hn8 (pi_10c (fun q => c279 (hw275.2.trans q)) hGk287 (Or.inl (hw294.2.symm.trans c298)) hGk425))⟩⟩⟩
                        · have b448 : kb 1 y4 1 := kr_nel c439 b9 kc_0 (by decide)
                          refine lv_iconst (v := 2) hx hb dX4_readPlain_209 (by decide) ?_
                          refine lv_goto (tgt := 214) hx hb dX4_readPlain_210 (by decide) ?_
                          refine kVG.callW (As := [.int 2]) (rest := []) ⟨hx, hb, hml, hown, hg⟩ (y_emitIfAny l r f435 a436 g437 tx tt hT hI hG 2 (kb_w kc_2 (by decide) (by decide)) ) (cwV 1 hg (kgV wt4_26 wt4_28 wp2_1 wt1_7 wt4_29) rfl rfl rfl (by decide +kernel) ⟨by dsimp only [rmD]; omega, by dsimp only [rmD]; omega⟩) hV hK hP hD hS hA (50) 4 rfl rfl rfl hl.1 rfl (Nat.le_of_ble_eq_true rfl) dX4_readPlain_214 ⟨Nat.le_refl _, Nat.le_refl _⟩ (fun u451 H locs hw449 hP hD hS => ?_)
                          obtain ⟨f452, a453, g454⟩ := u451
                          have hP : va_P D vwCl (xX K r f452 a453 g454 tx) H := hP
                          have hD : va_D A (xX K r f452 a453 g454 tx) := hD
                          have hI : xI f452 a453 := hw449.1
                          have hG : gOK K g454.2 tt := hw449.2.1
                          have eE455 : xEk [12, 13, 14, 32, 38, 44, 49, 50, 832, 838, 844, 849, 850, 1603, 1604, 1605, 1606, 1632] f435 a436 g437 f452 a453 g454 := hw449.2.2.1
                          have hE : xEk [12, 13, 14, 32, 38, 44, 49, 50, 832, 838, 844, 849, 850, 1603, 1606, 1632] f a g f452 a453 g454 := xEk_tr hE (xEk_w (by decide) eE455)
                          have hk0 : xQ f452 a453 N ob T pl := xQ_c hk0 (eE455.1 1603 rfl) (eE455.1 1606 rfl) hw449.2.2.2
                          refine lv_iconst (v := 1) hx hb dX4_readPlain_217 (by decide) ?_
                          exact kI_ret (v := 1) hx hb hr hlocks (by decide +kernel) hK hS dX4_readPlain_218 (f452, a453, g454) hP hD ⟨(kb_w kc_1 (by decide) (by decide)), hI, hG, hE, hk0, ⟨ik425, nk425, (by show (f452 1604).toInt = ((ik425 : Nat) : Int); rw [((eE455.1 1604 rfl).trans ((eE438.1 1604 rfl).trans egv426.symm))]; exact hg427), (Nat.le_trans (Nat.le_succ_of_le (Nat.le_trans (Nat.le_trans (Nat.le_add_right _ _) hvlp6_1.1) hlek287)) hlek425), hNk425, Or.inl ⟨rfl, ⟨(by show (f452 1605).toInt = ((nk425 : Nat) : Int); rw [((eE455.1 1605 rfl).trans ((eE438.1 1605 rfl).trans ez429.symm))]; exact hzz429), h3k425.2⟩, (by omega), xc _ (pi_5n hn8 (pi_10c (fun q => c279 (hw275.2.trans q)) hGk287 (Or.inl (hw294.2.symm.trans c298)) hGk425))⟩⟩⟩
                      · exact kb_dj c431 kc_1 kc_0 (by decide)
                    · refine k_top (z := 0) hvk425 ?_
                      obtain ⟨gv456, egv456⟩ : ∃ z : Int32, z = f421 1604 := ⟨_, rfl⟩
                      have hg457 : gv456.toInt = ((ik425 : Nat) : Int) := by rw [egv456]; exact hgk425
                      have b458 : kb 0 gv456 400 := kb_pos hNk425 hN4 hg457
                      refine lv_if_ne (tgt := 194) hx hb dX4_readPlain_189 (by decide) (fun c459 => ?_) (fun c459 => ?_)
                      · exact kb_nsame c459 kc_0 kc_0
                      · refine lv_iconst (v := 0) hx hb dX4_readPlain_192 (by decide) ?_
                        exact kI_ret (v := 0) hx hb hr hlocks (by decide +kernel) hK hS dX4_readPlain_193 (f421, a422, g423) hP hD ⟨(kb_w kc_0 (by decide) (by decide)), hI, hG, hE, hk0, ⟨ik425, 0, (by show (f421 1604).toInt = ((ik425 : Nat) : Int); rw [egv456.symm]; exact hg457), (Nat.le_trans (Nat.le_succ_of_le (Nat.le_trans (Nat.le_trans (Nat.le_add_right _ _) hvlp6_1.1) hlek287)) hlek425), hNk425, Or.inr ⟨rfl, xc _ (pi_5n hn8 (pi_10c (fun q => c279 (hw275.2.trans q)) hGk287 (Or.inl (hw294.2.symm.trans c298)) hGk425))⟩⟩⟩
                  · exact kb_dj c411 kc_10 kc_m1 (by decide)
              · exact kb_dj c293 kc_1 kc_0 (by decide)
            · refine k_top (z := 0) hvk287 ?_
              obtain ⟨gv460, egv460⟩ : ∃ z : Int32, z = f283 1604 := ⟨_, rfl⟩
              have hg461 : gv460.toInt = ((ik287 : Nat) : Int) := by rw [egv460]; exact hgk287
              have b462 : kb 0 gv460 400 := kb_pos hNk287 hN4 hg461
              refine lv_if_ne (tgt := 120) hx hb dX4_readPlain_115 (by decide) (fun c463 => ?_) (fun c463 => ?_)
              · exact kb_nsame c463 kc_0 kc_0
              · refine lv_iconst (v := 0) hx hb dX4_readPlain_118 (by decide) ?_
                exact kI_ret (v := 0) hx hb hr hlocks (by decide +kernel) hK hS dX4_readPlain_119 (f283, a284, g285) hP hD ⟨(kb_w kc_0 (by decide) (by decide)), hI, hG, hE, hk0, ⟨ik287, 0, (by show (f283 1604).toInt = ((ik287 : Nat) : Int); rw [egv460.symm]; exact hg461), (Nat.le_trans (Nat.le_trans (Nat.le_add_right _ _) hvlp6_1.1) hlek287), hNk287, Or.inr ⟨rfl, xc _ (pi_5n hn8 (pi_10g (fun q => c279 (hw275.2.trans q)) hGk287))⟩⟩⟩
          · have b464 : kb 3040 v276 3040 := kb_eq c279 kc_3040
            refine lv_iload_n hx hb dX4_readPlain_57 rfl (lv_at hl 3 rfl) ?_
            refine lv_bipush (v := 8) hx hb dX4_readPlain_58 (by decide) ?_
            refine lv_icmp_lt (tgt := 65) hx hb dX4_readPlain_60 (by decide) (fun c465 => ?_) (fun c465 => ?_)
            · have h466 := (kc_lt c465)
              have b467 : kb 0 dp 7 := kr_lt1 h466 bdp kc_8 (by decide)
              refine lv_aload_n hx hb dX4_readPlain_65 rfl (lv_at hl 2 rfl) ?_
              refine lv_dup hx hb dX4_readPlain_66 rfl ?_
              have hlt468 : i5 < N := xQ_lt hk0 (ne_4000 (hw275.2.symm.trans c279) (by decide +kernel))
              have b469 : kb 0 gv10 399 := kb_pos1 hlt468 hN4 hg11
              refine va_get (D := D) (ci := 4) (v := .int (F5 1604)) (C := RX4) (T := TX4) (N := 7) hx hb hg inC4 hown hK hP 50 rfl rfl 4 (by decide) (hg _ wt2_69) (fun _ h9 => h9) rfl dX4_readPlain_67 ?_
              refine k_top (z := gv10) egv10.symm ?_
              refine lv_iconst (v := 1) hx hb dX4_readPlain_70 (by decide) ?_
              refine lv_iadd hx hb dX4_readPlain_71 ?_
              refine lv_topi (fun t470 et470 => ?_)
              have b471 : kb 1 t470 400 := kb_eq et470 (kb_add b469 kc_1 (by decide) (by decide))
              have qt470 : t470.toInt = gv10.toInt + 1 := by rw [et470]; exact kt_addc b469 kc_1 (by decide) (by decide)
              have hg472 : t470.toInt = ((i5 + 1 : Nat) : Int) := by rw [qt470, hg11]; omega
              refine va_put (D := D) (ci := 4) (v := .int t470) (ty := .int) (C := RX4) (T := TX4) (N := 7) hx hb hg inC4 tyX4 tyX4_ok nmX4 hown hK hP hD hS 50 rfl rfl 4 (by decide) (hg _ wt2_69) (fun _ h9 => h9) rfl (by decide +kernel) rfl rfl (Nat.le_of_ble_eq_true rfl) dX4_readPlain_72 (fun H locs hP hD hS => ?_)
              have hP : va_P D vwCl (xX K r (upd F5 1604 t470) a g tx) H := hP
              have hD : va_D A (xX K r (upd F5 1604 t470) a g tx) := hD
              refine k_gen (P := fun z => va_P D vwCl (xX K r z a g tx) H ∧ va_D A (xX K r z a g tx) ∧ (xI z a) ∧ (gOK K g.2 tt) ∧ (xEk [12, 13, 14, 32, 38, 44, 49, 50, 832, 838, 844, 849, 850, 1603, 1606, 1632] f a g z a g) ∧ (xQ z a N ob T pl)) (upd F5 1604 t470) ⟨hP, hD, (xI_f hI (fI_st hI.1 1604 (kb_any _) (by decide) (by decide))), hG, (xEk_f hE (by decide)), (xQ_f hk0 (by decide) (by decide))⟩ (fun f_473 ef_473 hq => ?_)
              obtain ⟨hP, hD, hI, hG, hE, hk0⟩ := hq
              obtain ⟨ee, hd⟩ : ∃ ee, d = ee + 1 := ⟨d - 1, by have w1 := hp4; have w2 := (b467).2; omega⟩
              refine lv_aload_n hx hb dX4_readPlain_75 rfl (lv_at hl 2 rfl) ?_
              refine lv_iload_n hx hb dX4_readPlain_76 rfl (lv_at hl 3 rfl) ?_
              refine lv_iconst (v := 1) hx hb dX4_readPlain_77 (by decide) ?_
              refine lv_iadd hx hb dX4_readPlain_78 ?_
              refine lv_topi (fun t474 et474 => ?_)
              have b475 : kb 1 t474 8 := kb_eq et474 (kb_add b467 kc_1 (by decide) (by decide))
              have qt474 : t474.toInt = dp.toInt + 1 := by rw [et474]; exact kt_addc b467 kc_1 (by decide) (by decide)
              refine kIG.callW (As := [.int t474]) (rest := []) ⟨hx, hb, hml, hown, hg⟩ ((ih ee hd) l r f_473 a g tx tt hT hI hG t474 (kb_w b475 (by decide) (by decide)) N (i5 + 1) (n5) ob T pl hk0 (by rw [(show f_473 1604 = t470 from by rw [← ef_473]; rfl)]; exact hg472) hlt468 ⟨(by rw [((show f_473 1605 = F5 1605 from by rw [← ef_473]; rfl).trans ez13.symm)]; exact hzz13), hvlp6_2.2⟩ (by have w1 := hp4; have w2 := qt474; omega)) (cwV 1 hg (kgV wt4_50 wt4_52 wp2_5 wt1_7 wt4_53) rfl rfl rfl (by decide +kernel) ⟨by dsimp only [rmD]; omega, by dsimp only [rmD]; omega⟩) hV hK hP hD hS hA (50) 4 rfl rfl rfl hl.1 rfl (Nat.le_of_ble_eq_true rfl) dX4_readPlain_79 ⟨Nat.le_refl _, Nat.le_refl _⟩ (fun v477 u478 H locs hw476 hP hD hS => ?_)
              obtain ⟨f479, a480, g481⟩ := u478
              have hP : va_P D vwCl (xX K r f479 a480 g481 tx) H := hP
              have hD : va_D A (xX K r f479 a480 g481 tx) := hD
              have hI : xI f479 a480 := hw476.2.1
              have hG : gOK K g481.2 tt := hw476.2.2.1
              have eE482 : xEk [12, 13, 14, 32, 38, 44, 49, 50, 832, 838, 844, 849, 850, 1603, 1606, 1632] f_473 a g f479 a480 g481 := hw476.2.2.2.1
              have hE : xEk [12, 13, 14, 32, 38, 44, 49, 50, 832, 838, 844, 849, 850, 1603, 1606, 1632] f a g f479 a480 g481 := xEk_tr hE eE482
              have hk0 : xQ f479 a480 N ob T pl := hw476.2.2.2.2.1
              obtain ⟨ik483, nk483, hgk483, hlek483, hNk483, hck483⟩ := hw476.2.2.2.2.2
              rcases hck483 with ⟨hvk483, h3k483, hltk483, hGk483⟩ | ⟨hvk483, hGk483⟩
              · refine k_top (z := 1) hvk483 ?_
                obtain ⟨gv484, egv484⟩ : ∃ z : Int32, z = f479 1604 := ⟨_, rfl⟩
                have hg485 : gv484.toInt = ((ik483 : Nat) : Int) := by rw [egv484]; exact hgk483
                have b486 : kb 0 gv484 400 := kb_pos hNk483 hN4 hg485
                obtain ⟨z487, ez487⟩ : ∃ z : Int32, z = f479 1605 := ⟨_, rfl⟩
                have hzz487 : z487.toInt = ((nk483 : Nat) : Int) := by rw [ez487]; exact h3k483.1
                have b488 : kb 0 z487 50 := ⟨by omega, by have w1 := h3k483.2; omega⟩
                refine lv_if_eq (tgt := 95) hx hb dX4_readPlain_82 (by decide) (fun c489 => ?_) (fun c489 => ?_)
                · exact kb_dj c489 kc_1 kc_0 (by decide)
                · refine lv_aload_n hx hb dX4_readPlain_85 rfl (lv_at hl 2 rfl) ?_
                  refine kIG.callW (As := []) (rest := []) ⟨hx, hb, hml, hown, hg⟩ (y_inHand l r f479 a480 g481 tx tt hT hI hG   N (ik483) ob T pl hk0 (by rw [egv484.symm]; exact hg485) hNk483) (cwV 0 hg (kgV wt3_238 wt4_0 wp1_12 wt1_7 wt4_1) rfl rfl rfl (by decide +kernel) ⟨by dsimp only [rmD]; omega, by dsimp only [rmD]; omega⟩) hV hK hP hD hS hA (50) 4 rfl rfl rfl hl.1 rfl (Nat.le_of_ble_eq_true rfl) dX4_readPlain_86 ⟨Nat.le_refl _, Nat.le_refl _⟩ (fun v491 u492 H locs hw490 hP hD hS => ?_)
                  have hP : va_P D vwCl (xX K r f479 a480 g481 tx) H := hP
                  have hD : va_D A (xX K r f479 a480 g481 tx) := hD
                  have b493 : kb 0 v491 4000 := kb_eq hw490.2 (hk0.2.2.2.2.2.2 (ik483))
                  refine lv_sipush (v := 3041) hx hb dX4_readPlain_89 (by decide) ?_
                  refine lv_icmp_eq (tgt := 97) hx hb dX4_readPlain_92 (by decide) (fun c494 => ?_) (fun c494 => ?_)
                  · have b495 : kb 3041 v491 3041 := kb_eq c494 kc_3041
                    refine lv_aload_n hx hb dX4_readPlain_97 rfl (lv_at hl 2 rfl) ?_
                    refine lv_dup hx hb dX4_readPlain_98 rfl ?_
                    have hlt496 : ik483 < N := xQ_lt hk0 (ne_4000 (hw490.2.symm.trans c494) (by decide +kernel))
                    have b497 : kb 0 gv484 399 := kb_pos1 hlt496 hN4 hg485
                    refine va_get (D := D) (ci := 4) (v := .int (f479 1604)) (C := RX4) (T := TX4) (N := 7) hx hb hg inC4 hown hK hP 50 rfl rfl 4 (by decide) (hg _ wt2_69) (fun _ h9 => h9) rfl dX4_readPlain_99 ?_
                    refine k_top (z := gv484) egv484.symm ?_
                    refine lv_iconst (v := 1) hx hb dX4_readPlain_102 (by decide) ?_
                    refine lv_iadd hx hb dX4_readPlain_103 ?_
                    refine lv_topi (fun t498 et498 => ?_)
                    have b499 : kb 1 t498 400 := kb_eq et498 (kb_add b497 kc_1 (by decide) (by decide))
                    have qt498 : t498.toInt = gv484.toInt + 1 := by rw [et498]; exact kt_addc b497 kc_1 (by decide) (by decide)
                    have hg500 : t498.toInt = ((ik483 + 1 : Nat) : Int) := by rw [qt498, hg485]; omega
                    refine va_put (D := D) (ci := 4) (v := .int t498) (ty := .int) (C := RX4) (T := TX4) (N := 7) hx hb hg inC4 tyX4 tyX4_ok nmX4 hown hK hP hD hS 50 rfl rfl 4 (by decide) (hg _ wt2_69) (fun _ h9 => h9) rfl (by decide +kernel) rfl rfl (Nat.le_of_ble_eq_true rfl) dX4_readPlain_104 (fun H locs hP hD hS => ?_)
                    have hP : va_P D vwCl (xX K r (upd f479 1604 t498) a480 g481 tx) H := hP
                    have hD : va_D A (xX K r (upd f479 1604 t498) a480 g481 tx) := hD
                    refine k_gen (P := fun z => va_P D vwCl (xX K r z a480 g481 tx) H ∧ va_D A (xX K r z a480 g481 tx) ∧ (xI z a480) ∧ (gOK K g481.2 tt) ∧ (xEk [12, 13, 14, 32, 38, 44, 49, 50, 832, 838, 844, 849, 850, 1603, 1606, 1632] f a g z a480 g481) ∧ (xQ z a480 N ob T pl)) (upd f479 1604 t498) ⟨hP, hD, (xI_f hI (fI_st hI.1 1604 (kb_any _) (by decide) (by decide))), hG, (xEk_f hE (by decide)), (xQ_f hk0 (by decide) (by decide))⟩ (fun f_501 ef_501 hq => ?_)
                    obtain ⟨hP, hD, hI, hG, hE, hk0⟩ := hq
                    refine lv_goto (tgt := 204) hx hb dX4_readPlain_107 (by decide) ?_
                    refine lv_aload_n hx hb dX4_readPlain_204 rfl (lv_at hl 2 rfl) ?_
                    refine lv_iload_n hx hb dX4_readPlain_205 rfl (lv_at hl 1 rfl) ?_
                    refine lv_if_eq (tgt := 213) hx hb dX4_readPlain_206 (by decide) (fun c502 => ?_) (fun c502 => ?_)
                    · have b503 : kb 0 y4 0 := kb_eq c502 kc_0
                      refine lv_iconst (v := (-1)) hx hb dX4_readPlain_213 (by decide) ?_
                      refine kVG.callW (As := [.int (-1)]) (rest := []) ⟨hx, hb, hml, hown, hg⟩ (y_emitIfAny l r f_501 a480 g481 tx tt hT hI hG (-1) (kb_w kc_m1 (by decide) (by decide)) ) (cwV 1 hg (kgV wt4_26 wt4_28 wp2_1 wt1_7 wt4_29) rfl rfl rfl (by decide +kernel) ⟨by dsimp only [rmD]; omega, by dsimp only [rmD]; omega⟩) hV hK hP hD hS hA (50) 4 rfl rfl rfl hl.1 rfl (Nat.le_of_ble_eq_true rfl) dX4_readPlain_214 ⟨Nat.le_refl _, Nat.le_refl _⟩ (fun u506 H locs hw504 hP hD hS => ?_)
                      obtain ⟨f507, a508, g509⟩ := u506
                      have hP : va_P D vwCl (xX K r f507 a508 g509 tx) H := hP
                      have hD : va_D A (xX K r f507 a508 g509 tx) := hD
                      have hI : xI f507 a508 := hw504.1
                      have hG : gOK K g509.2 tt := hw504.2.1
                      have eE510 : xEk [12, 13, 14, 32, 38, 44, 49, 50, 832, 838, 844, 849, 850, 1603, 1604, 1605, 1606, 1632] f_501 a480 g481 f507 a508 g509 := hw504.2.2.1
                      have hE : xEk [12, 13, 14, 32, 38, 44, 49, 50, 832, 838, 844, 849, 850, 1603, 1606, 1632] f a g f507 a508 g509 := xEk_tr hE (xEk_w (by decide) eE510)
                      have hk0 : xQ f507 a508 N ob T pl := xQ_c hk0 (eE510.1 1603 rfl) (eE510.1 1606 rfl) hw504.2.2.2
                      refine lv_iconst (v := 1) hx hb dX4_readPlain_217 (by decide) ?_
                      exact kI_ret (v := 1) hx hb hr hlocks (by decide +kernel) hK hS dX4_readPlain_218 (f507, a508, g509) hP hD ⟨(kb_w kc_1 (by decide) (by decide)), hI, hG, hE, hk0, ⟨ik483 + 1, nk483, (by show (f507 1604).toInt = ((ik483 + 1 : Nat) : Int); rw [((eE510.1 1604 rfl).trans (show f_501 1604 = t498 from by rw [← ef_501]; rfl))]; exact hg500), (Nat.le_succ_of_le (Nat.le_trans (Nat.le_succ_of_le (Nat.le_trans (Nat.le_add_right _ _) hvlp6_1.1)) hlek483)), hlt496, Or.inl ⟨rfl, ⟨(by show (f507 1605).toInt = ((nk483 : Nat) : Int); rw [((eE510.1 1605 rfl).trans ((show f_501 1605 = f479 1605 from by rw [← ef_501]; rfl).trans ez487.symm))]; exact hzz487), h3k483.2⟩, (by omega), xc _ (pi_5n hn8 (pi_10a (hw275.2.symm.trans c279) hd hGk483 (hw490.2.symm.trans c494)))⟩⟩⟩
                    · have b511 : kb 1 y4 1 := kr_nel c502 b9 kc_0 (by decide)
                      refine lv_iconst (v := 2) hx hb dX4_readPlain_209 (by decide) ?_
                      refine lv_goto (tgt := 214) hx hb dX4_readPlain_210 (by decide) ?_
                      refine kVG.callW (As := [.int 2]) (rest := []) ⟨hx, hb, hml, hown, hg⟩ (y_emitIfAny l r f_501 a480 g481 tx tt hT hI hG 2 (kb_w kc_2 (by decide) (by decide)) ) (cwV 1 hg (kgV wt4_26 wt4_28 wp2_1 wt1_7 wt4_29) rfl rfl rfl (by decide +kernel) ⟨by dsimp only [rmD]; omega, by dsimp only [rmD]; omega⟩) hV hK hP hD hS hA (50) 4 rfl rfl rfl hl.1 rfl (Nat.le_of_ble_eq_true rfl) dX4_readPlain_214 ⟨Nat.le_refl _, Nat.le_refl _⟩ (fun u514 H locs hw512 hP hD hS => ?_)
                      obtain ⟨f515, a516, g517⟩ := u514
                      have hP : va_P D vwCl (xX K r f515 a516 g517 tx) H := hP
                      have hD : va_D A (xX K r f515 a516 g517 tx) := hD
                      have hI : xI f515 a516 := hw512.1
                      have hG : gOK K g517.2 tt := hw512.2.1
                      have eE518 : xEk [12, 13, 14, 32, 38, 44, 49, 50, 832, 838, 844, 849, 850, 1603, 1604, 1605, 1606, 1632] f_501 a480 g481 f515 a516 g517 := hw512.2.2.1
                      have hE : xEk [12, 13, 14, 32, 38, 44, 49, 50, 832, 838, 844, 849, 850, 1603, 1606, 1632] f a g f515 a516 g517 := xEk_tr hE (xEk_w (by decide) eE518)
                      have hk0 : xQ f515 a516 N ob T pl := xQ_c hk0 (eE518.1 1603 rfl) (eE518.1 1606 rfl) hw512.2.2.2
                      refine lv_iconst (v := 1) hx hb dX4_readPlain_217 (by decide) ?_
                      exact kI_ret (v := 1) hx hb hr hlocks (by decide +kernel) hK hS dX4_readPlain_218 (f515, a516, g517) hP hD ⟨(kb_w kc_1 (by decide) (by decide)), hI, hG, hE, hk0, ⟨ik483 + 1, nk483, (by show (f515 1604).toInt = ((ik483 + 1 : Nat) : Int); rw [((eE518.1 1604 rfl).trans (show f_501 1604 = t498 from by rw [← ef_501]; rfl))]; exact hg500), (Nat.le_succ_of_le (Nat.le_trans (Nat.le_succ_of_le (Nat.le_trans (Nat.le_add_right _ _) hvlp6_1.1)) hlek483)), hlt496, Or.inl ⟨rfl, ⟨(by show (f515 1605).toInt = ((nk483 : Nat) : Int); rw [((eE518.1 1605 rfl).trans ((show f_501 1605 = f479 1605 from by rw [← ef_501]; rfl).trans ez487.symm))]; exact hzz487), h3k483.2⟩, (by omega), xc _ (pi_5n hn8 (pi_10a (hw275.2.symm.trans c279) hd hGk483 (hw490.2.symm.trans c494)))⟩⟩⟩
                  · refine lv_iconst (v := 0) hx hb dX4_readPlain_95 (by decide) ?_
                    exact kI_ret (v := 0) hx hb hr hlocks (by decide +kernel) hK hS dX4_readPlain_96 (f479, a480, g481) hP hD ⟨(kb_w kc_0 (by decide) (by decide)), hI, hG, hE, hk0, ⟨ik483, 0, (by show (f479 1604).toInt = ((ik483 : Nat) : Int); rw [egv484.symm]; exact hg485), (Nat.le_trans (Nat.le_succ_of_le (Nat.le_trans (Nat.le_add_right _ _) hvlp6_1.1)) hlek483), hNk483, Or.inr ⟨rfl, xc _ (pi_5n hn8 (pi_10b (hw275.2.symm.trans c279) hd hGk483 (fun q => c494 (hw490.2.trans q))))⟩⟩⟩
              · refine k_top (z := 0) hvk483 ?_
                obtain ⟨gv519, egv519⟩ : ∃ z : Int32, z = f479 1604 := ⟨_, rfl⟩
                have hg520 : gv519.toInt = ((ik483 : Nat) : Int) := by rw [egv519]; exact hgk483
                have b521 : kb 0 gv519 400 := kb_pos hNk483 hN4 hg520
                refine lv_if_eq (tgt := 95) hx hb dX4_readPlain_82 (by decide) (fun c522 => ?_) (fun c522 => ?_)
                · refine lv_iconst (v := 0) hx hb dX4_readPlain_95 (by decide) ?_
                  exact kI_ret (v := 0) hx hb hr hlocks (by decide +kernel) hK hS dX4_readPlain_96 (f479, a480, g481) hP hD ⟨(kb_w kc_0 (by decide) (by decide)), hI, hG, hE, hk0, ⟨ik483, 0, (by show (f479 1604).toInt = ((ik483 : Nat) : Int); rw [egv519.symm]; exact hg520), (Nat.le_trans (Nat.le_succ_of_le (Nat.le_trans (Nat.le_add_right _ _) hvlp6_1.1)) hlek483), hNk483, Or.inr ⟨rfl, xc _ (pi_5n hn8 (pi_10f (hw275.2.symm.trans c279) hd hGk483))⟩⟩⟩
                · exact kb_nsame c522 kc_0 kc_0
            · have h523 := (kc_nlt c465)
              have b524 : kb 8 dp 8 := kr_le2 h523 kc_8 bdp
              refine lv_iconst (v := 0) hx hb dX4_readPlain_63 (by decide) ?_
              exact kI_ret (v := 0) hx hb hr hlocks (by decide +kernel) hK hS dX4_readPlain_64 (F5, a, g) hP hD ⟨(kb_w kc_0 (by decide) (by decide)), hI, hG, hE, hk0, ⟨i5, 0, (by show (F5 1604).toInt = ((i5 : Nat) : Int); rw [egv10.symm]; exact hg11), (Nat.le_trans (Nat.le_add_right _ _) hvlp6_1.1), hvlp6_1.2, Or.inr ⟨rfl, xc _ (pi_5n hn8 (pi_10z (hw275.2.symm.trans c279) (by have w1 := hp4; have w2 := (b524).1; omega)))⟩⟩⟩
        · have b525 : kb 2002 v271 2002 := kb_eq c274 kc_2002
          refine lv_aload_n hx hb dX4_readPlain_21 rfl (lv_at hl 2 rfl) ?_
          refine lv_dup hx hb dX4_readPlain_22 rfl ?_
          have hlt526 : i5 < N := xQ_lt hk0 (ne_4000 (hw270.2.symm.trans c274) (by decide +kernel))
          have b527 : kb 0 gv10 399 := kb_pos1 hlt526 hN4 hg11
          refine va_get (D := D) (ci := 4) (v := .int (F5 1604)) (C := RX4) (T := TX4) (N := 7) hx hb hg inC4 hown hK hP 50 rfl rfl 4 (by decide) (hg _ wt2_69) (fun _ h9 => h9) rfl dX4_readPlain_23 ?_
          refine k_top (z := gv10) egv10.symm ?_
          refine lv_iconst (v := 1) hx hb dX4_readPlain_26 (by decide) ?_
          refine lv_iadd hx hb dX4_readPlain_27 ?_
          refine lv_topi (fun t528 et528 => ?_)
          have b529 : kb 1 t528 400 := kb_eq et528 (kb_add b527 kc_1 (by decide) (by decide))
          have qt528 : t528.toInt = gv10.toInt + 1 := by rw [et528]; exact kt_addc b527 kc_1 (by decide) (by decide)
          have hg530 : t528.toInt = ((i5 + 1 : Nat) : Int) := by rw [qt528, hg11]; omega
          refine va_put (D := D) (ci := 4) (v := .int t528) (ty := .int) (C := RX4) (T := TX4) (N := 7) hx hb hg inC4 tyX4 tyX4_ok nmX4 hown hK hP hD hS 50 rfl rfl 4 (by decide) (hg _ wt2_69) (fun _ h9 => h9) rfl (by decide +kernel) rfl rfl (Nat.le_of_ble_eq_true rfl) dX4_readPlain_28 (fun H locs hP hD hS => ?_)
          have hP : va_P D vwCl (xX K r (upd F5 1604 t528) a g tx) H := hP
          have hD : va_D A (xX K r (upd F5 1604 t528) a g tx) := hD
          refine k_gen (P := fun z => va_P D vwCl (xX K r z a g tx) H ∧ va_D A (xX K r z a g tx) ∧ (xI z a) ∧ (gOK K g.2 tt) ∧ (xEk [12, 13, 14, 32, 38, 44, 49, 50, 832, 838, 844, 849, 850, 1603, 1606, 1632] f a g z a g) ∧ (xQ z a N ob T pl)) (upd F5 1604 t528) ⟨hP, hD, (xI_f hI (fI_st hI.1 1604 (kb_any _) (by decide) (by decide))), hG, (xEk_f hE (by decide)), (xQ_f hk0 (by decide) (by decide))⟩ (fun f_531 ef_531 hq => ?_)
          obtain ⟨hP, hD, hI, hG, hE, hk0⟩ := hq
          refine lv_iload_n hx hb dX4_readPlain_31 rfl (lv_at hl 1 rfl) ?_
          refine lv_if_ne (tgt := 39) hx hb dX4_readPlain_32 (by decide) (fun c532 => ?_) (fun c532 => ?_)
          · have b533 : kb 1 y4 1 := kr_nel c532 b9 kc_0 (by decide)
            refine lv_iconst (v := 0) hx hb dX4_readPlain_39 (by decide) ?_
            refine lv_istore_n (lv' := [(2, .int 0), (3, .int y3), (0, .ref (r 50)), (1, .int dp)]) hx hb dX4_readPlain_40 rfl hl (by decide) rfl (fun ls hl => ?_)
            obtain ⟨t534, et534⟩ : ∃ z : Int32, z = y3 + Int32.ofInt 1 := ⟨_, rfl⟩
            have qt534 : t534.toInt = y3.toInt + 1 := by rw [et534]; exact km_inc b269 (by decide) (by decide)
            have b535 : kb 1 t534 400 := kb_inc (k := 1) qt534 b269
            refine lv_iinc (v := t534) (lv' := [(3, .int t534), (2, .int 0), (0, .ref (r 50)), (1, .int dp)]) hx hb dX4_readPlain_41 hl (k := 1) rfl et534.symm (by decide) rfl (fun ls hl => ?_)
            refine lv_goto (tgt := 4) hx hb dX4_readPlain_44 (by decide) ?_
            exact ihlp6 (i5 + 1) (n5) (ko + 1) f_531 _ _ _ t534 0 (km_up hmlp6 qt534) hI hG hE hk0 (kb_w b535 (by decide) (by decide)) (kb_w kc_0 (by decide) (by decide)) (by rw [(show f_531 1604 = t528 from by rw [← ef_531]; rfl)]; exact hg530) (⟨by have w1 := hvlp6_1.1; omega, hlt526⟩) (⟨(by rw [((show f_531 1605 = F5 1605 from by rw [← ef_531]; rfl).trans ez13.symm)]; exact hzz13), hvlp6_2.2⟩) (fun r h => xc r (pi_5y (hw270.2.symm.trans c274) h)) (by have w1 := hvlp6_4; omega) hP hD hS (lv_sub hl [0, 1, 2, 3] rfl)
          · have b536 : kb 0 y4 0 := kb_eq c532 kc_0
            refine lv_iconst (v := 1) hx hb dX4_readPlain_35 (by decide) ?_
            refine lv_goto (tgt := 40) hx hb dX4_readPlain_36 (by decide) ?_
            refine lv_istore_n (lv' := [(2, .int 1), (3, .int y3), (0, .ref (r 50)), (1, .int dp)]) hx hb dX4_readPlain_40 rfl hl (by decide) rfl (fun ls hl => ?_)
            obtain ⟨t537, et537⟩ : ∃ z : Int32, z = y3 + Int32.ofInt 1 := ⟨_, rfl⟩
            have qt537 : t537.toInt = y3.toInt + 1 := by rw [et537]; exact km_inc b269 (by decide) (by decide)
            have b538 : kb 1 t537 400 := kb_inc (k := 1) qt537 b269
            refine lv_iinc (v := t537) (lv' := [(3, .int t537), (2, .int 1), (0, .ref (r 50)), (1, .int dp)]) hx hb dX4_readPlain_41 hl (k := 1) rfl et537.symm (by decide) rfl (fun ls hl => ?_)
            refine lv_goto (tgt := 4) hx hb dX4_readPlain_44 (by decide) ?_
            exact ihlp6 (i5 + 1) (n5) (ko + 1) f_531 _ _ _ t537 1 (km_up hmlp6 qt537) hI hG hE hk0 (kb_w b538 (by decide) (by decide)) (kb_w kc_1 (by decide) (by decide)) (by rw [(show f_531 1604 = t528 from by rw [← ef_531]; rfl)]; exact hg530) (⟨by have w1 := hvlp6_1.1; omega, hlt526⟩) (⟨(by rw [((show f_531 1605 = F5 1605 from by rw [← ef_531]; rfl).trans ez13.symm)]; exact hzz13), hvlp6_2.2⟩) (fun r h => xc r (pi_5y (hw270.2.symm.trans c274) h)) (by have w1 := hvlp6_4; omega) hP hD hS (lv_sub hl [0, 1, 2, 3] rfl)
  exact lp6 (401) (i) (n) 0 f _ _ _ 0 0 (by have h1 := (kc_0); unfold kb at h1; omega) hI hG hE hk0 (kb_w kc_0 (by decide) (by decide)) (kb_w kc_0 (by decide) (by decide)) (by rw [ecz4.symm]; exact hg0) (⟨by omega, hp2⟩) (⟨(by rw [ecz5.symm]; exact hn5), hl5⟩) (fun r h => h) (by decide +kernel) hP hD hS (lv_sub hl [0, 1, 2, 3] rfl)
set_option maxHeartbeats 4000000 in
theorem y_allSum : ∀ d, eXSum d := by
  intro d
  induction d with
  | zero => exact y_readSum 0 (y_readOperand 0 (fun e h => absurd h (by omega)))
  | succ d ih => exact y_readSum _ (y_readOperand _ (fun e h => (Nat.succ.inj h) ▸ ih))
set_option maxHeartbeats 4000000 in
theorem y_allTest : ∀ d, eXTest d := by
  intro d
  induction d with
  | zero => exact y_readTest 0 (y_readPlain 0 (fun e h => absurd h (by omega)) (y_allSum 0))
  | succ d ih => exact y_readTest _ (y_readPlain _ (fun e h => (Nat.succ.inj h) ▸ ih) (y_allSum _))
set_option maxHeartbeats 4000000 in
set_option maxRecDepth 100000 in
theorem y_readTimes  (l : Launch) {D : va_G} {K : Nat → ClassId} (r : Nat → Nat) (f : Nat → Int32) (a : Nat → Nat → Int32) (g : xG) (tx tt : va_W) (hT : ∀ c ∈ tt, c ∈ tx) (hI : xI f a) (hG : gOK K g.2 tt)   (N i : Nat) (ob : Bool) (T pl : Nat → Int32) (hp0 : xQ f a N ob T pl) (hp1 : (f 1604).toInt = (i : Int)) (hp2 : i ≤ N) : kIG l yX4_readTimes (Cond.code yX4_readTimes cX4_readTimes 2 (some .boolean) :: kG) (rmD 2 0 0) D K [.ref (r 50)] (xX K r f a g tx) (fun v (u : xS) => kb 0 v 1 ∧ xI u.1 u.2.1 ∧ gOK K u.2.2.2 tt ∧ xEk [12, 13, 14, 32, 38, 44, 49, 50, 832, 838, 844, 849, 850, 1603, 1606, 1632, 1605] f a g u.1 u.2.1 u.2.2 ∧ xQ u.1 u.2.1 N ob T pl ∧ (∃ i2 : Nat, (u.1 1604).toInt = (i2 : Int) ∧ i ≤ i2 ∧ i2 ≤ N ∧ ((v = 1 ∧ ∀ n r, pG ob T 8 12 i2 n r → pG ob T 8 14 i n r) ∨ (v = 0 ∧ ∀ n, pG ob T 8 14 i n (false, i2, 0))))) (fun u => xX K r u.1 u.2.1 u.2.2 tx) 0 0 := by
  refine kIE.of (cc := cX4_readTimes) (maxL := 2) (ret := (some .boolean)) (by decide) rfl (Nat.le_of_ble_eq_true rfl) ?_
  intro p e s m below meth c A hx hb hr hml hown hts hlocks hnm hK hP hD hS hA hV ls hl
  have hE : xEk [12, 13, 14, 32, 38, 44, 49, 50, 832, 838, 844, 849, 850, 1603, 1606, 1632, 1605] f a g f a g := xEk_rf
  have hg : ∀ w ∈ kG, w.before _ s = true := fun w h => hts w (List.mem_cons_of_mem _ h)
  have hown : s.vm.findClass RX4 = some m.cls := hown
  have hl : lv_has ls 2 [(0, .ref (r 50))] := hl
  have hk0 := hp0
  have hN4 := hp0.2.1
  obtain ⟨cz4, ecz4⟩ : ∃ z : Int32, z = f 1604 := ⟨_, rfl⟩
  have hg0 : cz4.toInt = (i : Int) := by rw [ecz4]; exact hp1
  have b1 : kb 0 cz4 400 := kb_pos hp2 hN4 hg0
  refine lv_aload_n hx hb dX4_readTimes_0 rfl (lv_at hl 0 rfl) ?_
  refine kIG.callW (As := []) (rest := []) ⟨hx, hb, hml, hown, hg⟩ (y_inHand l r f a g tx tt hT hI hG   N (i) ob T pl hk0 (by rw [ecz4.symm]; exact hg0) hp2) (cwV 0 hg (kgV wt3_238 wt4_0 wp1_12 wt1_7 wt4_1) rfl rfl rfl (by decide +kernel) ⟨by decide, by decide⟩) hV hK hP hD hS hA (50) 4 rfl rfl rfl hl.1 rfl (Nat.le_of_ble_eq_true rfl) dX4_readTimes_1 ⟨Nat.le_refl _, Nat.le_refl _⟩ (fun v3 u4 H locs hw2 hP hD hS => ?_)
  have hP : va_P D vwCl (xX K r f a g tx) H := hP
  have hD : va_D A (xX K r f a g tx) := hD
  have b5 : kb 0 v3 4000 := kb_eq hw2.2 (hk0.2.2.2.2.2.2 (i))
  refine lv_sipush (v := 2023) hx hb dX4_readTimes_4 (by decide) ?_
  refine lv_icmp_eq (tgt := 12) hx hb dX4_readTimes_7 (by decide) (fun c6 => ?_) (fun c6 => ?_)
  · have b7 : kb 2023 v3 2023 := kb_eq c6 kc_2023
    refine lv_aload_n hx hb dX4_readTimes_12 rfl (lv_at hl 0 rfl) ?_
    refine lv_dup hx hb dX4_readTimes_13 rfl ?_
    have hlt8 : i < N := xQ_lt hk0 (ne_4000 (hw2.2.symm.trans c6) (by decide +kernel))
    have b9 : kb 0 cz4 399 := kb_pos1 hlt8 hN4 hg0
    refine va_get (D := D) (ci := 4) (v := .int (f 1604)) (C := RX4) (T := TX4) (N := 7) hx hb hg inC4 hown hK hP 50 rfl rfl 4 (by decide) (hg _ wt2_69) (fun _ h9 => h9) rfl dX4_readTimes_14 ?_
    refine k_top (z := cz4) ecz4.symm ?_
    refine lv_iconst (v := 1) hx hb dX4_readTimes_17 (by decide) ?_
    refine lv_iadd hx hb dX4_readTimes_18 ?_
    refine lv_topi (fun t10 et10 => ?_)
    have b11 : kb 1 t10 400 := kb_eq et10 (kb_add b9 kc_1 (by decide) (by decide))
    have qt10 : t10.toInt = cz4.toInt + 1 := by rw [et10]; exact kt_addc b9 kc_1 (by decide) (by decide)
    have hg12 : t10.toInt = ((i + 1 : Nat) : Int) := by rw [qt10, hg0]; omega
    refine va_put (D := D) (ci := 4) (v := .int t10) (ty := .int) (C := RX4) (T := TX4) (N := 7) hx hb hg inC4 tyX4 tyX4_ok nmX4 hown hK hP hD hS 50 rfl rfl 4 (by decide) (hg _ wt2_69) (fun _ h9 => h9) rfl (by decide +kernel) rfl rfl (Nat.le_of_ble_eq_true rfl) dX4_readTimes_19 (fun H locs hP hD hS => ?_)
    have hP : va_P D vwCl (xX K r (upd f 1604 t10) a g tx) H := hP
    have hD : va_D A (xX K r (upd f 1604 t10) a g tx) := hD
    refine k_gen (P := fun z => va_P D vwCl (xX K r z a g tx) H ∧ va_D A (xX K r z a g tx) ∧ (xI z a) ∧ (gOK K g.2 tt) ∧ (xEk [12, 13, 14, 32, 38, 44, 49, 50, 832, 838, 844, 849, 850, 1603, 1606, 1632, 1605] f a g z a g) ∧ (xQ z a N ob T pl)) (upd f 1604 t10) ⟨hP, hD, (xI_f hI (fI_st hI.1 1604 (kb_any _) (by decide) (by decide))), hG, (xEk_f hE (by decide)), (xQ_f hk0 (by decide) (by decide))⟩ (fun f_13 ef_13 hq => ?_)
    obtain ⟨hP, hD, hI, hG, hE, hk0⟩ := hq
    refine lv_aload_n hx hb dX4_readTimes_22 rfl (lv_at hl 0 rfl) ?_
    refine kIG.callW (As := []) (rest := []) ⟨hx, hb, hml, hown, hg⟩ (y_inHand l r f_13 a g tx tt hT hI hG   N (i + 1) ob T pl hk0 (by rw [(show f_13 1604 = t10 from by rw [← ef_13]; rfl)]; exact hg12) hlt8) (cwV 0 hg (kgV wt3_238 wt4_0 wp1_12 wt1_7 wt4_1) rfl rfl rfl (by decide +kernel) ⟨by decide, by decide⟩) hV hK hP hD hS hA (50) 4 rfl rfl rfl hl.1 rfl (Nat.le_of_ble_eq_true rfl) dX4_readTimes_23 ⟨Nat.le_refl _, Nat.le_refl _⟩ (fun v15 u16 H locs hw14 hP hD hS => ?_)
    have hP : va_P D vwCl (xX K r f_13 a g tx) H := hP
    have hD : va_D A (xX K r f_13 a g tx) := hD
    have b17 : kb 0 v15 4000 := kb_eq hw14.2 (hk0.2.2.2.2.2.2 (i + 1))
    refine lv_istore_n (lv' := [(1, .int v15), (0, .ref (r 50))]) hx hb dX4_readTimes_26 rfl hl (by decide) rfl (fun ls hl => ?_)
    refine lv_iload_n hx hb dX4_readTimes_27 rfl (lv_at hl 0 rfl) ?_
    refine lv_iconst (v := 1) hx hb dX4_readTimes_28 (by decide) ?_
    refine lv_icmp_lt (tgt := 38) hx hb dX4_readTimes_29 (by decide) (fun c18 => ?_) (fun c18 => ?_)
    · have h19 := (kc_lt c18)
      have b20 : kb 0 v15 0 := kr_lt1 h19 b17 kc_1 (by decide)
      refine lv_iconst (v := 0) hx hb dX4_readTimes_38 (by decide) ?_
      exact kI_ret (v := 0) hx hb hr hlocks (by decide +kernel) hK hS dX4_readTimes_39 (f_13, a, g) hP hD ⟨(kb_w kc_0 (by decide) (by decide)), hI, hG, hE, hk0, ⟨i + 1, (by show (f_13 1604).toInt = ((i + 1 : Nat) : Int); rw [(show f_13 1604 = t10 from by rw [← ef_13]; rfl)]; exact hg12), (Nat.le_succ_of_le (Nat.le_refl i)), hlt8, Or.inr ⟨rfl, fun n => pi_14f (hw2.2.symm.trans c6) (by rw [← hw14.2]; exact pIn_f (fun q => by have w1 := (b20).2; have w2 := q.1; omega))⟩⟩⟩
    · have h21 := (kc_nlt c18)
      have b22 : kb 1 v15 4000 := kr_le2 h21 kc_1 b17
      refine lv_iload_n hx hb dX4_readTimes_32 rfl (lv_at hl 0 rfl) ?_
      refine lv_bipush (v := 20) hx hb dX4_readTimes_33 (by decide) ?_
      refine lv_icmp_le (tgt := 40) hx hb dX4_readTimes_35 (by decide) (fun c23 => ?_) (fun c23 => ?_)
      · have h24 := (kc_le c23)
        have b25 : kb 1 v15 20 := kr_le1 h24 b22 kc_20
        refine lv_aload_n hx hb dX4_readTimes_40 rfl (lv_at hl 1 rfl) ?_
        refine lv_dup hx hb dX4_readTimes_41 rfl ?_
        have hlt26 : i + 1 < N := xQ_lt hk0 (fun q => by have w1 := (b25).2; have w2 := congrArg Int32.toInt ((hw14.2).trans q); have w3 := i4000; omega)
        have b27 : kb 0 t10 399 := kb_pos1 hlt26 hN4 hg12
        refine va_get (D := D) (ci := 4) (v := .int (f_13 1604)) (C := RX4) (T := TX4) (N := 7) hx hb hg inC4 hown hK hP 50 rfl rfl 4 (by decide) (hg _ wt2_69) (fun _ h9 => h9) rfl dX4_readTimes_42 ?_
        refine k_top (z := t10) (show f_13 1604 = t10 from by rw [← ef_13]; rfl) ?_
        refine lv_iconst (v := 1) hx hb dX4_readTimes_45 (by decide) ?_
        refine lv_iadd hx hb dX4_readTimes_46 ?_
        refine lv_topi (fun t28 et28 => ?_)
        have b29 : kb 1 t28 400 := kb_eq et28 (kb_add b27 kc_1 (by decide) (by decide))
        have qt28 : t28.toInt = t10.toInt + 1 := by rw [et28]; exact kt_addc b27 kc_1 (by decide) (by decide)
        have hg30 : t28.toInt = ((i + 1 + 1 : Nat) : Int) := by rw [qt28, hg12]; omega
        refine va_put (D := D) (ci := 4) (v := .int t28) (ty := .int) (C := RX4) (T := TX4) (N := 7) hx hb hg inC4 tyX4 tyX4_ok nmX4 hown hK hP hD hS 50 rfl rfl 4 (by decide) (hg _ wt2_69) (fun _ h9 => h9) rfl (by decide +kernel) rfl rfl (Nat.le_of_ble_eq_true rfl) dX4_readTimes_47 (fun H locs hP hD hS => ?_)
        have hP : va_P D vwCl (xX K r (upd f_13 1604 t28) a g tx) H := hP
        have hD : va_D A (xX K r (upd f_13 1604 t28) a g tx) := hD
        refine k_gen (P := fun z => va_P D vwCl (xX K r z a g tx) H ∧ va_D A (xX K r z a g tx) ∧ (xI z a) ∧ (gOK K g.2 tt) ∧ (xEk [12, 13, 14, 32, 38, 44, 49, 50, 832, 838, 844, 849, 850, 1603, 1606, 1632, 1605] f a g z a g) ∧ (xQ z a N ob T pl)) (upd f_13 1604 t28) ⟨hP, hD, (xI_f hI (fI_st hI.1 1604 (kb_any _) (by decide) (by decide))), hG, (xEk_f hE (by decide)), (xQ_f hk0 (by decide) (by decide))⟩ (fun f_31 ef_31 hq => ?_)
        obtain ⟨hP, hD, hI, hG, hE, hk0⟩ := hq
        refine lv_aload_n hx hb dX4_readTimes_50 rfl (lv_at hl 1 rfl) ?_
        refine va_get (D := D) (ci := 4) (v := .ref (r 51)) (C := RX4) (T := TX4) (N := 7) hx hb hg inC4 hown hK hP 50 rfl rfl 0 (by decide) (hg _ wt2_64) (fun _ h9 => h9) rfl dX4_readTimes_51 ?_
        refine lv_iload_n hx hb dX4_readTimes_54 rfl (lv_at hl 0 rfl) ?_
        refine kVG.callW (As := [.int v15]) (rest := []) ⟨hx, hb, hml, hown, hg⟩ (y_repeat l r f_31 a g tx tt hT hI hG v15  ) (cwV 1 hg (kgV wt4_38 wt4_39 wt4_40 wt1_8 wt4_41) rfl rfl rfl (by decide +kernel) ⟨by decide, by decide⟩) hV hK hP hD hS hA (51) 10 rfl rfl rfl hl.1 rfl (Nat.le_of_ble_eq_true rfl) dX4_readTimes_55 ⟨Nat.le_refl _, Nat.le_refl _⟩ (fun u34 H locs hw32 hP hD hS => ?_)
        obtain ⟨f35, a36, g37⟩ := u34
        have hP : va_P D vwCl (xX K r f35 a36 g37 tx) H := hP
        have hD : va_D A (xX K r f35 a36 g37 tx) := hD
        have hI : xI f35 a36 := hw32.1
        have hG : gOK K g37.2 tt := hw32.2.1
        have eE38 : xEk [12, 13, 14, 32, 38, 44, 49, 50, 832, 838, 844, 849, 850, 1603, 1604, 1605, 1606, 1632] f_31 a g f35 a36 g37 := hw32.2.2.1
        have hE : xEk [12, 13, 14, 32, 38, 44, 49, 50, 832, 838, 844, 849, 850, 1603, 1606, 1632, 1605] f a g f35 a36 g37 := xEk_tr hE (xEk_w (by decide) eE38)
        have hk0 : xQ f35 a36 N ob T pl := xQ_c hk0 (eE38.1 1603 rfl) (eE38.1 1606 rfl) hw32.2.2.2
        refine lv_iconst (v := 1) hx hb dX4_readTimes_58 (by decide) ?_
        exact kI_ret (v := 1) hx hb hr hlocks (by decide +kernel) hK hS dX4_readTimes_59 (f35, a36, g37) hP hD ⟨(kb_w kc_1 (by decide) (by decide)), hI, hG, hE, hk0, ⟨i + 1 + 1, (by show (f35 1604).toInt = ((i + 1 + 1 : Nat) : Int); rw [((eE38.1 1604 rfl).trans (show f_31 1604 = t28 from by rw [← ef_31]; rfl))]; exact hg30), (Nat.le_succ_of_le (Nat.le_succ_of_le (Nat.le_refl i))), hlt26, Or.inl ⟨rfl, fun n r h => pi_14y (hw2.2.symm.trans c6) (by rw [← hw14.2]; exact pIn_t b25) h⟩⟩⟩
      · have h39 := (kc_nle c23)
        have b40 : kb 21 v15 4000 := kr_lt2 h39 kc_20 b22 (by decide)
        refine lv_iconst (v := 0) hx hb dX4_readTimes_38 (by decide) ?_
        exact kI_ret (v := 0) hx hb hr hlocks (by decide +kernel) hK hS dX4_readTimes_39 (f_13, a, g) hP hD ⟨(kb_w kc_0 (by decide) (by decide)), hI, hG, hE, hk0, ⟨i + 1, (by show (f_13 1604).toInt = ((i + 1 : Nat) : Int); rw [(show f_13 1604 = t10 from by rw [← ef_13]; rfl)]; exact hg12), (Nat.le_succ_of_le (Nat.le_refl i)), hlt8, Or.inr ⟨rfl, fun n => pi_14f (hw2.2.symm.trans c6) (by rw [← hw14.2]; exact pIn_f (fun q => by have w1 := (b40).1; have w2 := q.2; omega))⟩⟩⟩
  · refine lv_iconst (v := 1) hx hb dX4_readTimes_10 (by decide) ?_
    exact kI_ret (v := 1) hx hb hr hlocks (by decide +kernel) hK hS dX4_readTimes_11 (f, a, g) hP hD ⟨(kb_w kc_1 (by decide) (by decide)), hI, hG, hE, hk0, ⟨i, (by show (f 1604).toInt = ((i : Nat) : Int); rw [ecz4.symm]; exact hg0), (Nat.le_refl i), hp2, Or.inl ⟨rfl, fun n r h => pi_14n (fun q => c6 (hw2.2.trans q)) h⟩⟩⟩
set_option maxHeartbeats 4000000 in
set_option maxRecDepth 100000 in
theorem y_readRule  (l : Launch) {D : va_G} {K : Nat → ClassId} (r : Nat → Nat) (f : Nat → Int32) (a : Nat → Nat → Int32) (g : xG) (tx tt : va_W) (hT : ∀ c ∈ tt, c ∈ tx) (hI : xI f a) (hG : gOK K g.2 tt)   (N i n cn : Nat) (ob : Bool) (T pl : Nat → Int32) (hp0 : xQ f a N ob T pl) (hp1 : (f 1604).toInt = (i : Int)) (hp2 : i ≤ N) (hp3 : (f 1605).toInt = (n : Int) ∧ n ≤ 50) (hp4 : (f 1632).toInt = (cn : Int)) (hp5 : cn < 12) : kIG l yX4_readRule (Cond.code yX4_readRule cX4_readRule 2 (some .boolean) :: kG) (rmD 27 0 0) D K [.ref (r 50)] (xX K r f a g tx) (fun v (u : xS) => kb 0 v 1 ∧ xI u.1 u.2.1 ∧ gOK K u.2.2.2 tt ∧ xEk [12, 13, 14, 32, 38, 44, 49, 50, 832, 838, 844, 849, 850, 1603, 1606] f a g u.1 u.2.1 u.2.2 ∧ xQ u.1 u.2.1 N ob T pl ∧ (∃ i2 n2 : Nat, (u.1 1604).toInt = (i2 : Int) ∧ i ≤ i2 ∧ i2 ≤ N ∧ ((v = 1 ∧ ((u.1 1605).toInt = (n2 : Int) ∧ n2 ≤ 50) ∧ (u.1 1632).toInt = ((cn + 1 : Nat) : Int) ∧ ∀ r, pG ob T 8 12 i2 n2 r → pG ob T 8 11 i n r) ∨ (v = 0 ∧ pG ob T 8 11 i n (false, i2, 0))))) (fun u => xX K r u.1 u.2.1 u.2.2 tx) 0 0 := by
  refine kIE.of (cc := cX4_readRule) (maxL := 2) (ret := (some .boolean)) (by decide) rfl (Nat.le_of_ble_eq_true rfl) ?_
  intro p e s m below meth c A hx hb hr hml hown hts hlocks hnm hK hP hD hS hA hV ls hl
  have hE : xEk [12, 13, 14, 32, 38, 44, 49, 50, 832, 838, 844, 849, 850, 1603, 1606] f a g f a g := xEk_rf
  have hg : ∀ w ∈ kG, w.before _ s = true := fun w h => hts w (List.mem_cons_of_mem _ h)
  have hown : s.vm.findClass RX4 = some m.cls := hown
  have hl : lv_has ls 2 [(0, .ref (r 50))] := hl
  have hk0 := hp0
  have hN4 := hp0.2.1
  obtain ⟨cz4, ecz4⟩ : ∃ z : Int32, z = f 1604 := ⟨_, rfl⟩
  have hg0 : cz4.toInt = (i : Int) := by rw [ecz4]; exact hp1
  have b1 : kb 0 cz4 400 := kb_pos hp2 hN4 hg0
  obtain ⟨cz5, ecz5⟩ : ∃ z : Int32, z = f 1605 := ⟨_, rfl⟩
  have hn5 : cz5.toInt = (n : Int) := by rw [ecz5]; exact hp3.1
  have hl5 := hp3.2
  have b2 : kb 0 cz5 50 := ⟨by omega, by omega⟩
  obtain ⟨cC, ecC⟩ : ∃ z : Int32, z = f 1632 := ⟨_, rfl⟩
  have hcC : cC.toInt = (cn : Int) := by rw [ecC]; exact hp4
  refine lv_aload_n hx hb dX4_readRule_0 rfl (lv_at hl 0 rfl) ?_
  refine kIG.callW (As := []) (rest := []) ⟨hx, hb, hml, hown, hg⟩ (y_inHand l r f a g tx tt hT hI hG   N (i) ob T pl hk0 (by rw [ecz4.symm]; exact hg0) hp2) (cwV 0 hg (kgV wt3_238 wt4_0 wp1_12 wt1_7 wt4_1) rfl rfl rfl (by decide +kernel) ⟨by decide, by decide⟩) hV hK hP hD hS hA (50) 4 rfl rfl rfl hl.1 rfl (Nat.le_of_ble_eq_true rfl) dX4_readRule_1 ⟨Nat.le_refl _, Nat.le_refl _⟩ (fun v4 u5 H locs hw3 hP hD hS => ?_)
  have hP : va_P D vwCl (xX K r f a g tx) H := hP
  have hD : va_D A (xX K r f a g tx) := hD
  have b6 : kb 0 v4 4000 := kb_eq hw3.2 (hk0.2.2.2.2.2.2 (i))
  refine lv_sipush (v := 2004) hx hb dX4_readRule_4 (by decide) ?_
  refine lv_isub hx hb dX4_readRule_7 ?_
  refine lv_topi (fun t7 et7 => ?_)
  have b8 : kb (-2004) t7 1996 := kb_eq et7 (kb_sub b6 kc_2004 (by decide) (by decide))
  have qt7 : t7.toInt = v4.toInt - 2004 := by rw [et7]; exact kt_subc b6 kc_2004 (by decide) (by decide)
  refine lv_istore_n (lv' := [(1, .int t7), (0, .ref (r 50))]) hx hb dX4_readRule_8 rfl hl (by decide) rfl (fun ls hl => ?_)
  refine lv_iload_n hx hb dX4_readRule_9 rfl (lv_at hl 0 rfl) ?_
  refine lv_if_lt (tgt := 29) hx hb dX4_readRule_10 (by decide) (fun c9 => ?_) (fun c9 => ?_)
  · have h10 := (kc_lt c9)
    have b11 : kb (-2004) t7 (-1) := kr_lt1 h10 b8 kc_0 (by decide)
    refine lv_iconst (v := 0) hx hb dX4_readRule_29 (by decide) ?_
    exact kI_ret (v := 0) hx hb hr hlocks (by decide +kernel) hK hS dX4_readRule_30 (f, a, g) hP hD ⟨(kb_w kc_0 (by decide) (by decide)), hI, hG, hE, hk0, ⟨i, 0, (by show (f 1604).toInt = ((i : Nat) : Int); rw [ecz4.symm]; exact hg0), (Nat.le_refl i), hp2, Or.inr ⟨rfl, (pi_11x (n11 (fun q => by have w0 : kb 2004 v4 2007 := kb_eq hw3.2 q; have w1 := qt7; have w2 := (b11).1; have w3 := (b11).2; have w4 := w0.1; have w5 := w0.2; omega)).1 (n11 (fun q => by have w0 : kb 2004 v4 2007 := kb_eq hw3.2 q; have w1 := qt7; have w2 := (b11).1; have w3 := (b11).2; have w4 := w0.1; have w5 := w0.2; omega)).2)⟩⟩⟩
  · have h12 := (kc_nlt c9)
    have b13 : kb 0 t7 1996 := kr_le2 h12 kc_0 b8
    refine lv_iload_n hx hb dX4_readRule_13 rfl (lv_at hl 0 rfl) ?_
    refine lv_iconst (v := 4) hx hb dX4_readRule_14 (by decide) ?_
    refine lv_icmp_ge (tgt := 29) hx hb dX4_readRule_15 (by decide) (fun c14 => ?_) (fun c14 => ?_)
    · have h15 := (kc_le c14)
      have b16 : kb 4 t7 1996 := kr_le2 h15 kc_4 b13
      refine lv_iconst (v := 0) hx hb dX4_readRule_29 (by decide) ?_
      exact kI_ret (v := 0) hx hb hr hlocks (by decide +kernel) hK hS dX4_readRule_30 (f, a, g) hP hD ⟨(kb_w kc_0 (by decide) (by decide)), hI, hG, hE, hk0, ⟨i, 0, (by show (f 1604).toInt = ((i : Nat) : Int); rw [ecz4.symm]; exact hg0), (Nat.le_refl i), hp2, Or.inr ⟨rfl, (pi_11x (n11 (fun q => by have w0 : kb 2004 v4 2007 := kb_eq hw3.2 q; have w1 := qt7; have w2 := (b16).1; have w3 := (b16).2; have w4 := w0.1; have w5 := w0.2; omega)).1 (n11 (fun q => by have w0 : kb 2004 v4 2007 := kb_eq hw3.2 q; have w1 := qt7; have w2 := (b16).1; have w3 := (b16).2; have w4 := w0.1; have w5 := w0.2; omega)).2)⟩⟩⟩
    · have h17 := (kc_nle c14)
      have b18 : kb 0 t7 3 := kr_lt1 h17 b13 kc_4 (by decide)
      refine lv_aload_n hx hb dX4_readRule_18 rfl (lv_at hl 1 rfl) ?_
      refine va_get (D := D) (ci := 4) (v := .ref (r 51)) (C := RX4) (T := TX4) (N := 7) hx hb hg inC4 hown hK hP 50 rfl rfl 0 (by decide) (hg _ wt2_64) (fun _ h9 => h9) rfl dX4_readRule_19 ?_
      refine lv_iload_n hx hb dX4_readRule_22 rfl (lv_at hl 0 rfl) ?_
      refine kIG.callW (As := [.int t7]) (rest := []) ⟨hx, hb, hml, hown, hg⟩ (y_open l r f a g tx tt hT hI hG t7  cn (by rw [ecC.symm]; exact hcC) hp5) (cwV 1 hg (kgV wt4_2 wt4_3 wt4_4 wt1_8 wt4_5) rfl rfl rfl (by decide +kernel) ⟨by decide, by decide⟩) hV hK hP hD hS hA (51) 10 rfl rfl rfl hl.1 rfl (Nat.le_of_ble_eq_true rfl) dX4_readRule_23 ⟨Nat.le_refl _, Nat.le_refl _⟩ (fun v20 u21 H locs hw19 hP hD hS => ?_)
      obtain ⟨f22, a23, g24⟩ := u21
      have hP : va_P D vwCl (xX K r f22 a23 g24 tx) H := hP
      have hD : va_D A (xX K r f22 a23 g24 tx) := hD
      have hI : xI f22 a23 := hw19.2.1
      have hG : gOK K g24.2 tt := hw19.2.2.1
      have eE25 : xEk [12, 13, 14, 32, 38, 44, 49, 50, 832, 838, 844, 849, 850, 1603, 1604, 1605, 1606] f a g f22 a23 g24 := hw19.2.2.2.1
      have hE : xEk [12, 13, 14, 32, 38, 44, 49, 50, 832, 838, 844, 849, 850, 1603, 1606] f a g f22 a23 g24 := xEk_tr hE (xEk_w (by decide) eE25)
      have hk0 : xQ f22 a23 N ob T pl := xQ_c hk0 (eE25.1 1603 rfl) (eE25.1 1606 rfl) hw19.2.2.2.2.1
      refine k_top (z := 1) (kb_11 hw19.1) ?_
      obtain ⟨z26, ez26⟩ : ∃ z : Int32, z = f22 1632 := ⟨_, rfl⟩
      have hCz26 : z26.toInt = ((cn + 1 : Nat) : Int) := by rw [ez26]; exact hw19.2.2.2.2.2
      refine lv_if_ne (tgt := 31) hx hb dX4_readRule_26 (by decide) (fun c27 => ?_) (fun c27 => ?_)
      · refine lv_aload_n hx hb dX4_readRule_31 rfl (lv_at hl 1 rfl) ?_
        refine lv_dup hx hb dX4_readRule_32 rfl ?_
        have hlt28 : i < N := xQ_lt hk0 (fun q => by have w1 := congrArg Int32.toInt (hw3.2.trans q); have w2 := i4000; have w3 := qt7; have w4 := (b18).2; omega)
        have b29 : kb 0 cz4 399 := kb_pos1 hlt28 hN4 hg0
        refine va_get (D := D) (ci := 4) (v := .int (f22 1604)) (C := RX4) (T := TX4) (N := 7) hx hb hg inC4 hown hK hP 50 rfl rfl 4 (by decide) (hg _ wt2_69) (fun _ h9 => h9) rfl dX4_readRule_33 ?_
        refine k_top (z := cz4) ((eE25.1 1604 rfl).trans ecz4.symm) ?_
        refine lv_iconst (v := 1) hx hb dX4_readRule_36 (by decide) ?_
        refine lv_iadd hx hb dX4_readRule_37 ?_
        refine lv_topi (fun t30 et30 => ?_)
        have b31 : kb 1 t30 400 := kb_eq et30 (kb_add b29 kc_1 (by decide) (by decide))
        have qt30 : t30.toInt = cz4.toInt + 1 := by rw [et30]; exact kt_addc b29 kc_1 (by decide) (by decide)
        have hg32 : t30.toInt = ((i + 1 : Nat) : Int) := by rw [qt30, hg0]; omega
        refine va_put (D := D) (ci := 4) (v := .int t30) (ty := .int) (C := RX4) (T := TX4) (N := 7) hx hb hg inC4 tyX4 tyX4_ok nmX4 hown hK hP hD hS 50 rfl rfl 4 (by decide) (hg _ wt2_69) (fun _ h9 => h9) rfl (by decide +kernel) rfl rfl (Nat.le_of_ble_eq_true rfl) dX4_readRule_38 (fun H locs hP hD hS => ?_)
        have hP : va_P D vwCl (xX K r (upd f22 1604 t30) a23 g24 tx) H := hP
        have hD : va_D A (xX K r (upd f22 1604 t30) a23 g24 tx) := hD
        refine k_gen (P := fun z => va_P D vwCl (xX K r z a23 g24 tx) H ∧ va_D A (xX K r z a23 g24 tx) ∧ (xI z a23) ∧ (gOK K g24.2 tt) ∧ (xEk [12, 13, 14, 32, 38, 44, 49, 50, 832, 838, 844, 849, 850, 1603, 1606] f a g z a23 g24) ∧ (xQ z a23 N ob T pl)) (upd f22 1604 t30) ⟨hP, hD, (xI_f hI (fI_st hI.1 1604 (kb_any _) (by decide) (by decide))), hG, (xEk_f hE (by decide)), (xQ_f hk0 (by decide) (by decide))⟩ (fun f_33 ef_33 hq => ?_)
        obtain ⟨hP, hD, hI, hG, hE, hk0⟩ := hq
        refine lv_iload_n hx hb dX4_readRule_41 rfl (lv_at hl 0 rfl) ?_
        refine lv_iconst (v := 3) hx hb dX4_readRule_42 (by decide) ?_
        refine lv_icmp_eq (tgt := 56) hx hb dX4_readRule_43 (by decide) (fun c34 => ?_) (fun c34 => ?_)
        · have b35 : kb 3 t7 3 := kb_eq c34 kc_3
          refine lv_aload_n hx hb dX4_readRule_56 rfl (lv_at hl 1 rfl) ?_
          refine va_get (D := D) (ci := 4) (v := .ref (r 51)) (C := RX4) (T := TX4) (N := 7) hx hb hg inC4 hown hK hP 50 rfl rfl 0 (by decide) (hg _ wt2_64) (fun _ h9 => h9) rfl dX4_readRule_57 ?_
          refine lv_iconst (v := 0) hx hb dX4_readRule_60 (by decide) ?_
          refine kVG.callW (As := [.int 0]) (rest := []) ⟨hx, hb, hml, hown, hg⟩ (y_close l r f_33 a23 g24 tx tt hT hI hG 0 (kb_w kc_0 (by decide) (by decide)) ) (cwV 1 hg (kgV wt4_30 wt4_31 wt4_32 wt1_8 wt4_33) rfl rfl rfl (by decide +kernel) ⟨by decide, by decide⟩) hV hK hP hD hS hA (51) 10 rfl rfl rfl hl.1 rfl (Nat.le_of_ble_eq_true rfl) dX4_readRule_61 ⟨Nat.le_refl _, Nat.le_refl _⟩ (fun u38 H locs hw36 hP hD hS => ?_)
          obtain ⟨f39, a40, g41⟩ := u38
          have hP : va_P D vwCl (xX K r f39 a40 g41 tx) H := hP
          have hD : va_D A (xX K r f39 a40 g41 tx) := hD
          have hI : xI f39 a40 := hw36.1
          have hG : gOK K g41.2 tt := hw36.2.1
          have eE42 : xEk [12, 13, 14, 32, 38, 44, 49, 50, 832, 838, 844, 849, 850, 1603, 1604, 1605, 1606, 1632] f_33 a23 g24 f39 a40 g41 := hw36.2.2.1
          have hE : xEk [12, 13, 14, 32, 38, 44, 49, 50, 832, 838, 844, 849, 850, 1603, 1606] f a g f39 a40 g41 := xEk_tr hE (xEk_w (by decide) eE42)
          have hk0 : xQ f39 a40 N ob T pl := xQ_c hk0 (eE42.1 1603 rfl) (eE42.1 1606 rfl) hw36.2.2.2
          refine lv_aload_n hx hb dX4_readRule_64 rfl (lv_at hl 1 rfl) ?_
          refine va_get (D := D) (ci := 4) (v := .ref (r 51)) (C := RX4) (T := TX4) (N := 7) hx hb hg inC4 hown hK hP 50 rfl rfl 0 (by decide) (hg _ wt2_64) (fun _ h9 => h9) rfl dX4_readRule_65 ?_
          refine lv_iconst (v := 1) hx hb dX4_readRule_68 (by decide) ?_
          refine kVG.callW (As := [.int 1]) (rest := []) ⟨hx, hb, hml, hown, hg⟩ (y_close l r f39 a40 g41 tx tt hT hI hG 1 (kb_w kc_1 (by decide) (by decide)) ) (cwV 1 hg (kgV wt4_30 wt4_31 wt4_32 wt1_8 wt4_33) rfl rfl rfl (by decide +kernel) ⟨by decide, by decide⟩) hV hK hP hD hS hA (51) 10 rfl rfl rfl hl.1 rfl (Nat.le_of_ble_eq_true rfl) dX4_readRule_69 ⟨Nat.le_refl _, Nat.le_refl _⟩ (fun u45 H locs hw43 hP hD hS => ?_)
          obtain ⟨f46, a47, g48⟩ := u45
          have hP : va_P D vwCl (xX K r f46 a47 g48 tx) H := hP
          have hD : va_D A (xX K r f46 a47 g48 tx) := hD
          have hI : xI f46 a47 := hw43.1
          have hG : gOK K g48.2 tt := hw43.2.1
          have eE49 : xEk [12, 13, 14, 32, 38, 44, 49, 50, 832, 838, 844, 849, 850, 1603, 1604, 1605, 1606, 1632] f39 a40 g41 f46 a47 g48 := hw43.2.2.1
          have hE : xEk [12, 13, 14, 32, 38, 44, 49, 50, 832, 838, 844, 849, 850, 1603, 1606] f a g f46 a47 g48 := xEk_tr hE (xEk_w (by decide) eE49)
          have hk0 : xQ f46 a47 N ob T pl := xQ_c hk0 (eE49.1 1603 rfl) (eE49.1 1606 rfl) hw43.2.2.2
          refine lv_iconst (v := 1) hx hb dX4_readRule_72 (by decide) ?_
          exact kI_ret (v := 1) hx hb hr hlocks (by decide +kernel) hK hS dX4_readRule_73 (f46, a47, g48) hP hD ⟨(kb_w kc_1 (by decide) (by decide)), hI, hG, hE, hk0, ⟨i + 1, n, (by show (f46 1604).toInt = ((i + 1 : Nat) : Int); rw [((eE49.1 1604 rfl).trans ((eE42.1 1604 rfl).trans (show f_33 1604 = t30 from by rw [← ef_33]; rfl)))]; exact hg32), (Nat.le_succ_of_le (Nat.le_refl i)), hlt28, Or.inl ⟨rfl, ⟨(by show (f46 1605).toInt = ((n : Nat) : Int); rw [((eE49.1 1605 rfl).trans ((eE42.1 1605 rfl).trans ((show f_33 1605 = f22 1605 from by rw [← ef_33]; rfl).trans ((eE25.1 1605 rfl).trans ecz5.symm))))]; exact hn5), hl5⟩, (by show (f46 1632).toInt = ((cn + 1 : Nat) : Int); rw [((eE49.1 1632 rfl).trans ((eE42.1 1632 rfl).trans ((show f_33 1632 = f22 1632 from by rw [← ef_33]; rfl).trans ez26.symm)))]; exact hCz26), fun r h => (pi_11b (fun q => by have w1 := ((kb_eq hw3.2.symm (⟨by have w1 := qt7; have w2 := (b35).1; omega, by have w1 := qt7; have w2 := (b35).2; omega⟩ : kb 2007 v4 2007))).1; rcases q with e | e | e <;> (rw [e] at w1; exact absurd w1 (by decide +kernel))) (c_eq (k := 2007) (by have w1 := ((kb_eq hw3.2.symm (⟨by have w1 := qt7; have w2 := (b35).1; omega, by have w1 := qt7; have w2 := (b35).2; omega⟩ : kb 2007 v4 2007))).1; have w2 := ((kb_eq hw3.2.symm (⟨by have w1 := qt7; have w2 := (b35).1; omega, by have w1 := qt7; have w2 := (b35).2; omega⟩ : kb 2007 v4 2007))).2; omega) (by decide +kernel)) h)⟩⟩⟩
        · have b50 : kb 0 t7 2 := kr_neh c34 b18 kc_3 (by decide)
          refine lv_aload_n hx hb dX4_readRule_46 rfl (lv_at hl 1 rfl) ?_
          refine lv_iconst (v := 0) hx hb dX4_readRule_47 (by decide) ?_
          refine kIG.callW (As := [.int 0]) (rest := []) ⟨hx, hb, hml, hown, hg⟩ ((y_allSum 8) l r f_33 a23 g24 tx tt hT hI hG 0 (kb_w kc_0 (by decide) (by decide)) N (i + 1) (n) ob T pl hk0 (by rw [(show f_33 1604 = t30 from by rw [← ef_33]; rfl)]; exact hg32) hlt28 ⟨(by rw [((show f_33 1605 = f22 1605 from by rw [← ef_33]; rfl).trans ((eE25.1 1605 rfl).trans ecz5.symm))]; exact hn5), hl5⟩ (by decide +kernel)) (cwV 1 hg (kgV wt4_6 wt4_8 wp1_13 wt1_7 wt4_9) rfl rfl rfl (by decide +kernel) ⟨by decide, by decide⟩) hV hK hP hD hS hA (50) 4 rfl rfl rfl hl.1 rfl (Nat.le_of_ble_eq_true rfl) dX4_readRule_48 ⟨Nat.le_refl _, Nat.le_refl _⟩ (fun v52 u53 H locs hw51 hP hD hS => ?_)
          obtain ⟨f54, a55, g56⟩ := u53
          have hP : va_P D vwCl (xX K r f54 a55 g56 tx) H := hP
          have hD : va_D A (xX K r f54 a55 g56 tx) := hD
          have hI : xI f54 a55 := hw51.2.1
          have hG : gOK K g56.2 tt := hw51.2.2.1
          have eE57 : xEk [12, 13, 14, 32, 38, 44, 49, 50, 832, 838, 844, 849, 850, 1603, 1606, 1632] f_33 a23 g24 f54 a55 g56 := hw51.2.2.2.1
          have hE : xEk [12, 13, 14, 32, 38, 44, 49, 50, 832, 838, 844, 849, 850, 1603, 1606] f a g f54 a55 g56 := xEk_tr hE (xEk_w (by decide) eE57)
          have hk0 : xQ f54 a55 N ob T pl := hw51.2.2.2.2.1
          obtain ⟨ik58, nk58, hgk58, hlek58, hNk58, hck58⟩ := hw51.2.2.2.2.2
          rcases hck58 with ⟨hvk58, h3k58, hltk58, hGk58⟩ | ⟨hvk58, hGk58⟩
          · refine k_top (z := 1) hvk58 ?_
            obtain ⟨gv59, egv59⟩ : ∃ z : Int32, z = f54 1604 := ⟨_, rfl⟩
            have hg60 : gv59.toInt = ((ik58 : Nat) : Int) := by rw [egv59]; exact hgk58
            have b61 : kb 0 gv59 400 := kb_pos hNk58 hN4 hg60
            obtain ⟨z62, ez62⟩ : ∃ z : Int32, z = f54 1605 := ⟨_, rfl⟩
            have hzz62 : z62.toInt = ((nk58 : Nat) : Int) := by rw [ez62]; exact h3k58.1
            have b63 : kb 0 z62 50 := ⟨by omega, by have w1 := h3k58.2; omega⟩
            refine lv_if_ne (tgt := 56) hx hb dX4_readRule_51 (by decide) (fun c64 => ?_) (fun c64 => ?_)
            · refine lv_aload_n hx hb dX4_readRule_56 rfl (lv_at hl 1 rfl) ?_
              refine va_get (D := D) (ci := 4) (v := .ref (r 51)) (C := RX4) (T := TX4) (N := 7) hx hb hg inC4 hown hK hP 50 rfl rfl 0 (by decide) (hg _ wt2_64) (fun _ h9 => h9) rfl dX4_readRule_57 ?_
              refine lv_iconst (v := 0) hx hb dX4_readRule_60 (by decide) ?_
              refine kVG.callW (As := [.int 0]) (rest := []) ⟨hx, hb, hml, hown, hg⟩ (y_close l r f54 a55 g56 tx tt hT hI hG 0 (kb_w kc_0 (by decide) (by decide)) ) (cwV 1 hg (kgV wt4_30 wt4_31 wt4_32 wt1_8 wt4_33) rfl rfl rfl (by decide +kernel) ⟨by decide, by decide⟩) hV hK hP hD hS hA (51) 10 rfl rfl rfl hl.1 rfl (Nat.le_of_ble_eq_true rfl) dX4_readRule_61 ⟨Nat.le_refl _, Nat.le_refl _⟩ (fun u67 H locs hw65 hP hD hS => ?_)
              obtain ⟨f68, a69, g70⟩ := u67
              have hP : va_P D vwCl (xX K r f68 a69 g70 tx) H := hP
              have hD : va_D A (xX K r f68 a69 g70 tx) := hD
              have hI : xI f68 a69 := hw65.1
              have hG : gOK K g70.2 tt := hw65.2.1
              have eE71 : xEk [12, 13, 14, 32, 38, 44, 49, 50, 832, 838, 844, 849, 850, 1603, 1604, 1605, 1606, 1632] f54 a55 g56 f68 a69 g70 := hw65.2.2.1
              have hE : xEk [12, 13, 14, 32, 38, 44, 49, 50, 832, 838, 844, 849, 850, 1603, 1606] f a g f68 a69 g70 := xEk_tr hE (xEk_w (by decide) eE71)
              have hk0 : xQ f68 a69 N ob T pl := xQ_c hk0 (eE71.1 1603 rfl) (eE71.1 1606 rfl) hw65.2.2.2
              refine lv_aload_n hx hb dX4_readRule_64 rfl (lv_at hl 1 rfl) ?_
              refine va_get (D := D) (ci := 4) (v := .ref (r 51)) (C := RX4) (T := TX4) (N := 7) hx hb hg inC4 hown hK hP 50 rfl rfl 0 (by decide) (hg _ wt2_64) (fun _ h9 => h9) rfl dX4_readRule_65 ?_
              refine lv_iconst (v := 1) hx hb dX4_readRule_68 (by decide) ?_
              refine kVG.callW (As := [.int 1]) (rest := []) ⟨hx, hb, hml, hown, hg⟩ (y_close l r f68 a69 g70 tx tt hT hI hG 1 (kb_w kc_1 (by decide) (by decide)) ) (cwV 1 hg (kgV wt4_30 wt4_31 wt4_32 wt1_8 wt4_33) rfl rfl rfl (by decide +kernel) ⟨by decide, by decide⟩) hV hK hP hD hS hA (51) 10 rfl rfl rfl hl.1 rfl (Nat.le_of_ble_eq_true rfl) dX4_readRule_69 ⟨Nat.le_refl _, Nat.le_refl _⟩ (fun u74 H locs hw72 hP hD hS => ?_)
              obtain ⟨f75, a76, g77⟩ := u74
              have hP : va_P D vwCl (xX K r f75 a76 g77 tx) H := hP
              have hD : va_D A (xX K r f75 a76 g77 tx) := hD
              have hI : xI f75 a76 := hw72.1
              have hG : gOK K g77.2 tt := hw72.2.1
              have eE78 : xEk [12, 13, 14, 32, 38, 44, 49, 50, 832, 838, 844, 849, 850, 1603, 1604, 1605, 1606, 1632] f68 a69 g70 f75 a76 g77 := hw72.2.2.1
              have hE : xEk [12, 13, 14, 32, 38, 44, 49, 50, 832, 838, 844, 849, 850, 1603, 1606] f a g f75 a76 g77 := xEk_tr hE (xEk_w (by decide) eE78)
              have hk0 : xQ f75 a76 N ob T pl := xQ_c hk0 (eE78.1 1603 rfl) (eE78.1 1606 rfl) hw72.2.2.2
              refine lv_iconst (v := 1) hx hb dX4_readRule_72 (by decide) ?_
              exact kI_ret (v := 1) hx hb hr hlocks (by decide +kernel) hK hS dX4_readRule_73 (f75, a76, g77) hP hD ⟨(kb_w kc_1 (by decide) (by decide)), hI, hG, hE, hk0, ⟨ik58, nk58, (by show (f75 1604).toInt = ((ik58 : Nat) : Int); rw [((eE78.1 1604 rfl).trans ((eE71.1 1604 rfl).trans egv59.symm))]; exact hg60), (Nat.le_trans (Nat.le_succ_of_le (Nat.le_refl i)) hlek58), hNk58, Or.inl ⟨rfl, ⟨(by show (f75 1605).toInt = ((nk58 : Nat) : Int); rw [((eE78.1 1605 rfl).trans ((eE71.1 1605 rfl).trans ez62.symm))]; exact hzz62), h3k58.2⟩, (by show (f75 1632).toInt = ((cn + 1 : Nat) : Int); rw [((eE78.1 1632 rfl).trans ((eE71.1 1632 rfl).trans ((eE57.1 1632 rfl).trans ((show f_33 1632 = f22 1632 from by rw [← ef_33]; rfl).trans ez26.symm))))]; exact hCz26), fun r h => (pi_11a (y11 (kb_eq hw3.2.symm (⟨by have w1 := qt7; have w2 := (b50).1; omega, by have w1 := qt7; have w2 := (b50).2; omega⟩ : kb 2004 v4 2006))) hGk58 h)⟩⟩⟩
            · exact kb_dj c64 kc_1 kc_0 (by decide)
          · refine k_top (z := 0) hvk58 ?_
            obtain ⟨gv79, egv79⟩ : ∃ z : Int32, z = f54 1604 := ⟨_, rfl⟩
            have hg80 : gv79.toInt = ((ik58 : Nat) : Int) := by rw [egv79]; exact hgk58
            have b81 : kb 0 gv79 400 := kb_pos hNk58 hN4 hg80
            refine lv_if_ne (tgt := 56) hx hb dX4_readRule_51 (by decide) (fun c82 => ?_) (fun c82 => ?_)
            · exact kb_nsame c82 kc_0 kc_0
            · refine lv_iconst (v := 0) hx hb dX4_readRule_54 (by decide) ?_
              exact kI_ret (v := 0) hx hb hr hlocks (by decide +kernel) hK hS dX4_readRule_55 (f54, a55, g56) hP hD ⟨(kb_w kc_0 (by decide) (by decide)), hI, hG, hE, hk0, ⟨ik58, 0, (by show (f54 1604).toInt = ((ik58 : Nat) : Int); rw [egv79.symm]; exact hg80), (Nat.le_trans (Nat.le_succ_of_le (Nat.le_refl i)) hlek58), hNk58, Or.inr ⟨rfl, (pi_11f (y11 (kb_eq hw3.2.symm (⟨by have w1 := qt7; have w2 := (b50).1; omega, by have w1 := qt7; have w2 := (b50).2; omega⟩ : kb 2004 v4 2006))) hGk58)⟩⟩⟩
      · exact kb_dj c27 kc_1 kc_0 (by decide)
set_option maxHeartbeats 4000000 in
set_option maxRecDepth 100000 in
theorem y_readOrder  (l : Launch) {D : va_G} {K : Nat → ClassId} (r : Nat → Nat) (f : Nat → Int32) (a : Nat → Nat → Int32) (g : xG) (tx tt : va_W) (hT : ∀ c ∈ tt, c ∈ tx) (hI : xI f a) (hG : gOK K g.2 tt)   (N i n cn : Nat) (ob : Bool) (T pl : Nat → Int32) (hp0 : xQ f a N ob T pl) (hp1 : (f 1604).toInt = (i : Int)) (hp2 : i ≤ N) (hp3 : (f 1605).toInt = (n : Int) ∧ n ≤ 50) (hp4 : (f 1632).toInt = (cn : Int)) (hp5 : cn < 12) : kIG l yX4_readOrder (Cond.code yX4_readOrder cX4_readOrder 2 (some .boolean) :: kG) (rmD 27 0 0) D K [.ref (r 50)] (xX K r f a g tx) (fun v (u : xS) => kb 0 v 1 ∧ xI u.1 u.2.1 ∧ gOK K u.2.2.2 tt ∧ xEk [12, 13, 14, 32, 38, 44, 49, 50, 832, 838, 844, 849, 850, 1603, 1606] f a g u.1 u.2.1 u.2.2 ∧ xQ u.1 u.2.1 N ob T pl ∧ (∃ i2 n2 : Nat, (u.1 1604).toInt = (i2 : Int) ∧ i ≤ i2 ∧ i2 ≤ N ∧ ((v = 1 ∧ ((u.1 1605).toInt = (n2 : Int) ∧ n2 ≤ 50) ∧ (u.1 1632).toInt = ((cn + 1 : Nat) : Int) ∧ ∀ r, pG ob T 8 12 i2 n2 r → pG ob T 8 13 i n r) ∨ (v = 0 ∧ pG ob T 8 13 i n (false, i2, 0))))) (fun u => xX K r u.1 u.2.1 u.2.2 tx) 0 0 := by
  refine kIE.of (cc := cX4_readOrder) (maxL := 2) (ret := (some .boolean)) (by decide) rfl (Nat.le_of_ble_eq_true rfl) ?_
  intro p e s m below meth c A hx hb hr hml hown hts hlocks hnm hK hP hD hS hA hV ls hl
  have hE : xEk [12, 13, 14, 32, 38, 44, 49, 50, 832, 838, 844, 849, 850, 1603, 1606] f a g f a g := xEk_rf
  have hg : ∀ w ∈ kG, w.before _ s = true := fun w h => hts w (List.mem_cons_of_mem _ h)
  have hown : s.vm.findClass RX4 = some m.cls := hown
  have hl : lv_has ls 2 [(0, .ref (r 50))] := hl
  have hk0 := hp0
  have hN4 := hp0.2.1
  obtain ⟨cz4, ecz4⟩ : ∃ z : Int32, z = f 1604 := ⟨_, rfl⟩
  have hg0 : cz4.toInt = (i : Int) := by rw [ecz4]; exact hp1
  have b1 : kb 0 cz4 400 := kb_pos hp2 hN4 hg0
  obtain ⟨cz5, ecz5⟩ : ∃ z : Int32, z = f 1605 := ⟨_, rfl⟩
  have hn5 : cz5.toInt = (n : Int) := by rw [ecz5]; exact hp3.1
  have hl5 := hp3.2
  have b2 : kb 0 cz5 50 := ⟨by omega, by omega⟩
  obtain ⟨cC, ecC⟩ : ∃ z : Int32, z = f 1632 := ⟨_, rfl⟩
  have hcC : cC.toInt = (cn : Int) := by rw [ecC]; exact hp4
  refine lv_aload_n hx hb dX4_readOrder_0 rfl (lv_at hl 0 rfl) ?_
  refine kIG.callW (As := []) (rest := []) ⟨hx, hb, hml, hown, hg⟩ (y_inHand l r f a g tx tt hT hI hG   N (i) ob T pl hk0 (by rw [ecz4.symm]; exact hg0) hp2) (cwV 0 hg (kgV wt3_238 wt4_0 wp1_12 wt1_7 wt4_1) rfl rfl rfl (by decide +kernel) ⟨by decide, by decide⟩) hV hK hP hD hS hA (50) 4 rfl rfl rfl hl.1 rfl (Nat.le_of_ble_eq_true rfl) dX4_readOrder_1 ⟨Nat.le_refl _, Nat.le_refl _⟩ (fun v4 u5 H locs hw3 hP hD hS => ?_)
  have hP : va_P D vwCl (xX K r f a g tx) H := hP
  have hD : va_D A (xX K r f a g tx) := hD
  have b6 : kb 0 v4 4000 := kb_eq hw3.2 (hk0.2.2.2.2.2.2 (i))
  refine lv_sipush (v := 2018) hx hb dX4_readOrder_4 (by decide) ?_
  refine lv_isub hx hb dX4_readOrder_7 ?_
  refine lv_topi (fun t7 et7 => ?_)
  have b8 : kb (-2018) t7 1982 := kb_eq et7 (kb_sub b6 kc_2018 (by decide) (by decide))
  have qt7 : t7.toInt = v4.toInt - 2018 := by rw [et7]; exact kt_subc b6 kc_2018 (by decide) (by decide)
  refine lv_istore_n (lv' := [(1, .int t7), (0, .ref (r 50))]) hx hb dX4_readOrder_8 rfl hl (by decide) rfl (fun ls hl => ?_)
  refine lv_iload_n hx hb dX4_readOrder_9 rfl (lv_at hl 0 rfl) ?_
  refine lv_if_lt (tgt := 29) hx hb dX4_readOrder_10 (by decide) (fun c9 => ?_) (fun c9 => ?_)
  · have h10 := (kc_lt c9)
    have b11 : kb (-2018) t7 (-1) := kr_lt1 h10 b8 kc_0 (by decide)
    refine lv_iconst (v := 0) hx hb dX4_readOrder_29 (by decide) ?_
    exact kI_ret (v := 0) hx hb hr hlocks (by decide +kernel) hK hS dX4_readOrder_30 (f, a, g) hP hD ⟨(kb_w kc_0 (by decide) (by decide)), hI, hG, hE, hk0, ⟨i, 0, (by show (f 1604).toInt = ((i : Nat) : Int); rw [ecz4.symm]; exact hg0), (Nat.le_refl i), hp2, Or.inr ⟨rfl, (pi_13x (n13 (fun q => by have w0 : kb 2018 v4 2021 := kb_eq hw3.2 q; have w1 := qt7; have w2 := (b11).1; have w3 := (b11).2; have w4 := w0.1; have w5 := w0.2; omega)).1 (n13 (fun q => by have w0 : kb 2018 v4 2021 := kb_eq hw3.2 q; have w1 := qt7; have w2 := (b11).1; have w3 := (b11).2; have w4 := w0.1; have w5 := w0.2; omega)).2.1 (n13 (fun q => by have w0 : kb 2018 v4 2021 := kb_eq hw3.2 q; have w1 := qt7; have w2 := (b11).1; have w3 := (b11).2; have w4 := w0.1; have w5 := w0.2; omega)).2.2)⟩⟩⟩
  · have h12 := (kc_nlt c9)
    have b13 : kb 0 t7 1982 := kr_le2 h12 kc_0 b8
    refine lv_iload_n hx hb dX4_readOrder_13 rfl (lv_at hl 0 rfl) ?_
    refine lv_iconst (v := 4) hx hb dX4_readOrder_14 (by decide) ?_
    refine lv_icmp_ge (tgt := 29) hx hb dX4_readOrder_15 (by decide) (fun c14 => ?_) (fun c14 => ?_)
    · have h15 := (kc_le c14)
      have b16 : kb 4 t7 1982 := kr_le2 h15 kc_4 b13
      refine lv_iconst (v := 0) hx hb dX4_readOrder_29 (by decide) ?_
      exact kI_ret (v := 0) hx hb hr hlocks (by decide +kernel) hK hS dX4_readOrder_30 (f, a, g) hP hD ⟨(kb_w kc_0 (by decide) (by decide)), hI, hG, hE, hk0, ⟨i, 0, (by show (f 1604).toInt = ((i : Nat) : Int); rw [ecz4.symm]; exact hg0), (Nat.le_refl i), hp2, Or.inr ⟨rfl, (pi_13x (n13 (fun q => by have w0 : kb 2018 v4 2021 := kb_eq hw3.2 q; have w1 := qt7; have w2 := (b16).1; have w3 := (b16).2; have w4 := w0.1; have w5 := w0.2; omega)).1 (n13 (fun q => by have w0 : kb 2018 v4 2021 := kb_eq hw3.2 q; have w1 := qt7; have w2 := (b16).1; have w3 := (b16).2; have w4 := w0.1; have w5 := w0.2; omega)).2.1 (n13 (fun q => by have w0 : kb 2018 v4 2021 := kb_eq hw3.2 q; have w1 := qt7; have w2 := (b16).1; have w3 := (b16).2; have w4 := w0.1; have w5 := w0.2; omega)).2.2)⟩⟩⟩
    · have h17 := (kc_nle c14)
      have b18 : kb 0 t7 3 := kr_lt1 h17 b13 kc_4 (by decide)
      refine lv_aload_n hx hb dX4_readOrder_18 rfl (lv_at hl 1 rfl) ?_
      refine va_get (D := D) (ci := 4) (v := .ref (r 51)) (C := RX4) (T := TX4) (N := 7) hx hb hg inC4 hown hK hP 50 rfl rfl 0 (by decide) (hg _ wt2_64) (fun _ h9 => h9) rfl dX4_readOrder_19 ?_
      refine lv_iload_n hx hb dX4_readOrder_22 rfl (lv_at hl 0 rfl) ?_
      refine kIG.callW (As := [.int t7]) (rest := []) ⟨hx, hb, hml, hown, hg⟩ (y_open l r f a g tx tt hT hI hG t7  cn (by rw [ecC.symm]; exact hcC) hp5) (cwV 1 hg (kgV wt4_2 wt4_3 wt4_4 wt1_8 wt4_5) rfl rfl rfl (by decide +kernel) ⟨by decide, by decide⟩) hV hK hP hD hS hA (51) 10 rfl rfl rfl hl.1 rfl (Nat.le_of_ble_eq_true rfl) dX4_readOrder_23 ⟨Nat.le_refl _, Nat.le_refl _⟩ (fun v20 u21 H locs hw19 hP hD hS => ?_)
      obtain ⟨f22, a23, g24⟩ := u21
      have hP : va_P D vwCl (xX K r f22 a23 g24 tx) H := hP
      have hD : va_D A (xX K r f22 a23 g24 tx) := hD
      have hI : xI f22 a23 := hw19.2.1
      have hG : gOK K g24.2 tt := hw19.2.2.1
      have eE25 : xEk [12, 13, 14, 32, 38, 44, 49, 50, 832, 838, 844, 849, 850, 1603, 1604, 1605, 1606] f a g f22 a23 g24 := hw19.2.2.2.1
      have hE : xEk [12, 13, 14, 32, 38, 44, 49, 50, 832, 838, 844, 849, 850, 1603, 1606] f a g f22 a23 g24 := xEk_tr hE (xEk_w (by decide) eE25)
      have hk0 : xQ f22 a23 N ob T pl := xQ_c hk0 (eE25.1 1603 rfl) (eE25.1 1606 rfl) hw19.2.2.2.2.1
      refine k_top (z := 1) (kb_11 hw19.1) ?_
      obtain ⟨z26, ez26⟩ : ∃ z : Int32, z = f22 1632 := ⟨_, rfl⟩
      have hCz26 : z26.toInt = ((cn + 1 : Nat) : Int) := by rw [ez26]; exact hw19.2.2.2.2.2
      refine lv_if_ne (tgt := 31) hx hb dX4_readOrder_26 (by decide) (fun c27 => ?_) (fun c27 => ?_)
      · refine lv_aload_n hx hb dX4_readOrder_31 rfl (lv_at hl 1 rfl) ?_
        refine lv_dup hx hb dX4_readOrder_32 rfl ?_
        have hlt28 : i < N := xQ_lt hk0 (fun q => by have w1 := congrArg Int32.toInt (hw3.2.trans q); have w2 := i4000; have w3 := qt7; have w4 := (b18).2; omega)
        have b29 : kb 0 cz4 399 := kb_pos1 hlt28 hN4 hg0
        refine va_get (D := D) (ci := 4) (v := .int (f22 1604)) (C := RX4) (T := TX4) (N := 7) hx hb hg inC4 hown hK hP 50 rfl rfl 4 (by decide) (hg _ wt2_69) (fun _ h9 => h9) rfl dX4_readOrder_33 ?_
        refine k_top (z := cz4) ((eE25.1 1604 rfl).trans ecz4.symm) ?_
        refine lv_iconst (v := 1) hx hb dX4_readOrder_36 (by decide) ?_
        refine lv_iadd hx hb dX4_readOrder_37 ?_
        refine lv_topi (fun t30 et30 => ?_)
        have b31 : kb 1 t30 400 := kb_eq et30 (kb_add b29 kc_1 (by decide) (by decide))
        have qt30 : t30.toInt = cz4.toInt + 1 := by rw [et30]; exact kt_addc b29 kc_1 (by decide) (by decide)
        have hg32 : t30.toInt = ((i + 1 : Nat) : Int) := by rw [qt30, hg0]; omega
        refine va_put (D := D) (ci := 4) (v := .int t30) (ty := .int) (C := RX4) (T := TX4) (N := 7) hx hb hg inC4 tyX4 tyX4_ok nmX4 hown hK hP hD hS 50 rfl rfl 4 (by decide) (hg _ wt2_69) (fun _ h9 => h9) rfl (by decide +kernel) rfl rfl (Nat.le_of_ble_eq_true rfl) dX4_readOrder_38 (fun H locs hP hD hS => ?_)
        have hP : va_P D vwCl (xX K r (upd f22 1604 t30) a23 g24 tx) H := hP
        have hD : va_D A (xX K r (upd f22 1604 t30) a23 g24 tx) := hD
        refine k_gen (P := fun z => va_P D vwCl (xX K r z a23 g24 tx) H ∧ va_D A (xX K r z a23 g24 tx) ∧ (xI z a23) ∧ (gOK K g24.2 tt) ∧ (xEk [12, 13, 14, 32, 38, 44, 49, 50, 832, 838, 844, 849, 850, 1603, 1606] f a g z a23 g24) ∧ (xQ z a23 N ob T pl)) (upd f22 1604 t30) ⟨hP, hD, (xI_f hI (fI_st hI.1 1604 (kb_any _) (by decide) (by decide))), hG, (xEk_f hE (by decide)), (xQ_f hk0 (by decide) (by decide))⟩ (fun f_33 ef_33 hq => ?_)
        obtain ⟨hP, hD, hI, hG, hE, hk0⟩ := hq
        refine lv_iload_n hx hb dX4_readOrder_41 rfl (lv_at hl 0 rfl) ?_
        refine lv_iconst (v := 3) hx hb dX4_readOrder_42 (by decide) ?_
        refine lv_icmp_eq (tgt := 56) hx hb dX4_readOrder_43 (by decide) (fun c34 => ?_) (fun c34 => ?_)
        · have b35 : kb 3 t7 3 := kb_eq c34 kc_3
          refine lv_aload_n hx hb dX4_readOrder_56 rfl (lv_at hl 1 rfl) ?_
          refine va_get (D := D) (ci := 4) (v := .ref (r 51)) (C := RX4) (T := TX4) (N := 7) hx hb hg inC4 hown hK hP 50 rfl rfl 0 (by decide) (hg _ wt2_64) (fun _ h9 => h9) rfl dX4_readOrder_57 ?_
          refine lv_iconst (v := 0) hx hb dX4_readOrder_60 (by decide) ?_
          refine kVG.callW (As := [.int 0]) (rest := []) ⟨hx, hb, hml, hown, hg⟩ (y_close l r f_33 a23 g24 tx tt hT hI hG 0 (kb_w kc_0 (by decide) (by decide)) ) (cwV 1 hg (kgV wt4_30 wt4_31 wt4_32 wt1_8 wt4_33) rfl rfl rfl (by decide +kernel) ⟨by decide, by decide⟩) hV hK hP hD hS hA (51) 10 rfl rfl rfl hl.1 rfl (Nat.le_of_ble_eq_true rfl) dX4_readOrder_61 ⟨Nat.le_refl _, Nat.le_refl _⟩ (fun u38 H locs hw36 hP hD hS => ?_)
          obtain ⟨f39, a40, g41⟩ := u38
          have hP : va_P D vwCl (xX K r f39 a40 g41 tx) H := hP
          have hD : va_D A (xX K r f39 a40 g41 tx) := hD
          have hI : xI f39 a40 := hw36.1
          have hG : gOK K g41.2 tt := hw36.2.1
          have eE42 : xEk [12, 13, 14, 32, 38, 44, 49, 50, 832, 838, 844, 849, 850, 1603, 1604, 1605, 1606, 1632] f_33 a23 g24 f39 a40 g41 := hw36.2.2.1
          have hE : xEk [12, 13, 14, 32, 38, 44, 49, 50, 832, 838, 844, 849, 850, 1603, 1606] f a g f39 a40 g41 := xEk_tr hE (xEk_w (by decide) eE42)
          have hk0 : xQ f39 a40 N ob T pl := xQ_c hk0 (eE42.1 1603 rfl) (eE42.1 1606 rfl) hw36.2.2.2
          refine lv_iload_n hx hb dX4_readOrder_64 rfl (lv_at hl 0 rfl) ?_
          refine lv_if_ne (tgt := 100) hx hb dX4_readOrder_65 (by decide) (fun c43 => ?_) (fun c43 => ?_)
          · refine lv_aload_n hx hb dX4_readOrder_100 rfl (lv_at hl 1 rfl) ?_
            refine va_get (D := D) (ci := 4) (v := .ref (r 51)) (C := RX4) (T := TX4) (N := 7) hx hb hg inC4 hown hK hP 50 rfl rfl 0 (by decide) (hg _ wt2_64) (fun _ h9 => h9) rfl dX4_readOrder_101 ?_
            refine lv_iconst (v := 1) hx hb dX4_readOrder_104 (by decide) ?_
            refine kVG.callW (As := [.int 1]) (rest := []) ⟨hx, hb, hml, hown, hg⟩ (y_close l r f39 a40 g41 tx tt hT hI hG 1 (kb_w kc_1 (by decide) (by decide)) ) (cwV 1 hg (kgV wt4_30 wt4_31 wt4_32 wt1_8 wt4_33) rfl rfl rfl (by decide +kernel) ⟨by decide, by decide⟩) hV hK hP hD hS hA (51) 10 rfl rfl rfl hl.1 rfl (Nat.le_of_ble_eq_true rfl) dX4_readOrder_105 ⟨Nat.le_refl _, Nat.le_refl _⟩ (fun u46 H locs hw44 hP hD hS => ?_)
            obtain ⟨f47, a48, g49⟩ := u46
            have hP : va_P D vwCl (xX K r f47 a48 g49 tx) H := hP
            have hD : va_D A (xX K r f47 a48 g49 tx) := hD
            have hI : xI f47 a48 := hw44.1
            have hG : gOK K g49.2 tt := hw44.2.1
            have eE50 : xEk [12, 13, 14, 32, 38, 44, 49, 50, 832, 838, 844, 849, 850, 1603, 1604, 1605, 1606, 1632] f39 a40 g41 f47 a48 g49 := hw44.2.2.1
            have hE : xEk [12, 13, 14, 32, 38, 44, 49, 50, 832, 838, 844, 849, 850, 1603, 1606] f a g f47 a48 g49 := xEk_tr hE (xEk_w (by decide) eE50)
            have hk0 : xQ f47 a48 N ob T pl := xQ_c hk0 (eE50.1 1603 rfl) (eE50.1 1606 rfl) hw44.2.2.2
            refine lv_aload_n hx hb dX4_readOrder_108 rfl (lv_at hl 1 rfl) ?_
            refine kIG.callW (As := []) (rest := []) ⟨hx, hb, hml, hown, hg⟩ (y_readTimes l r f47 a48 g49 tx tt hT hI hG   N (i + 1) ob T pl hk0 (by rw [((eE50.1 1604 rfl).trans ((eE42.1 1604 rfl).trans (show f_33 1604 = t30 from by rw [← ef_33]; rfl)))]; exact hg32) hlt28) (cwV 0 hg (kgV wt4_34 wt4_36 wp2_2 wt1_7 wt4_37) rfl rfl rfl (by decide +kernel) ⟨by decide, by decide⟩) hV hK hP hD hS hA (50) 4 rfl rfl rfl hl.1 rfl (Nat.le_of_ble_eq_true rfl) dX4_readOrder_109 ⟨Nat.le_refl _, Nat.le_refl _⟩ (fun v52 u53 H locs hw51 hP hD hS => ?_)
            obtain ⟨f54, a55, g56⟩ := u53
            have hP : va_P D vwCl (xX K r f54 a55 g56 tx) H := hP
            have hD : va_D A (xX K r f54 a55 g56 tx) := hD
            have hI : xI f54 a55 := hw51.2.1
            have hG : gOK K g56.2 tt := hw51.2.2.1
            have eE57 : xEk [12, 13, 14, 32, 38, 44, 49, 50, 832, 838, 844, 849, 850, 1603, 1606, 1632, 1605] f47 a48 g49 f54 a55 g56 := hw51.2.2.2.1
            have hE : xEk [12, 13, 14, 32, 38, 44, 49, 50, 832, 838, 844, 849, 850, 1603, 1606] f a g f54 a55 g56 := xEk_tr hE (xEk_w (by decide) eE57)
            have hk0 : xQ f54 a55 N ob T pl := hw51.2.2.2.2.1
            obtain ⟨ik58, hgk58, hlek58, hNk58, hck58⟩ := hw51.2.2.2.2.2
            rcases hck58 with ⟨hvk58, hGk58⟩ | ⟨hvk58, hGk58⟩
            · refine k_top (z := 1) hvk58 ?_
              obtain ⟨gv59, egv59⟩ : ∃ z : Int32, z = f54 1604 := ⟨_, rfl⟩
              have hg60 : gv59.toInt = ((ik58 : Nat) : Int) := by rw [egv59]; exact hgk58
              have b61 : kb 0 gv59 400 := kb_pos hNk58 hN4 hg60
              exact kI_ret (v := 1) hx hb hr hlocks (by decide +kernel) hK hS dX4_readOrder_112 (f54, a55, g56) hP hD ⟨(kb_w kc_1 (by decide) (by decide)), hI, hG, hE, hk0, ⟨ik58, n, (by show (f54 1604).toInt = ((ik58 : Nat) : Int); rw [egv59.symm]; exact hg60), (Nat.le_trans (Nat.le_succ_of_le (Nat.le_refl i)) hlek58), hNk58, Or.inl ⟨rfl, ⟨(by show (f54 1605).toInt = ((n : Nat) : Int); rw [((eE57.1 1605 rfl).trans ((eE50.1 1605 rfl).trans ((eE42.1 1605 rfl).trans ((show f_33 1605 = f22 1605 from by rw [← ef_33]; rfl).trans ((eE25.1 1605 rfl).trans ecz5.symm)))))]; exact hn5), hl5⟩, (by show (f54 1632).toInt = ((cn + 1 : Nat) : Int); rw [((eE57.1 1632 rfl).trans ((eE50.1 1632 rfl).trans ((eE42.1 1632 rfl).trans ((show f_33 1632 = f22 1632 from by rw [← ef_33]; rfl).trans ez26.symm))))]; exact hCz26), fun r h => (pi_13c (fun q => by have w1 := ((kb_eq hw3.2.symm (⟨by have w1 := qt7; have w2 := (b35).1; omega, by have w1 := qt7; have w2 := (b35).2; omega⟩ : kb 2021 v4 2021))).1; rw [q] at w1; exact absurd w1 (by decide +kernel)) (fun q => by have w1 := ((kb_eq hw3.2.symm (⟨by have w1 := qt7; have w2 := (b35).1; omega, by have w1 := qt7; have w2 := (b35).2; omega⟩ : kb 2021 v4 2021))).1; rcases q with e | e <;> (rw [e] at w1; exact absurd w1 (by decide +kernel))) (c_eq (k := 2021) (by have w1 := ((kb_eq hw3.2.symm (⟨by have w1 := qt7; have w2 := (b35).1; omega, by have w1 := qt7; have w2 := (b35).2; omega⟩ : kb 2021 v4 2021))).1; have w2 := ((kb_eq hw3.2.symm (⟨by have w1 := qt7; have w2 := (b35).1; omega, by have w1 := qt7; have w2 := (b35).2; omega⟩ : kb 2021 v4 2021))).2; omega) (by decide +kernel)) (hGk58 _ _ h))⟩⟩⟩
            · refine k_top (z := 0) hvk58 ?_
              obtain ⟨gv62, egv62⟩ : ∃ z : Int32, z = f54 1604 := ⟨_, rfl⟩
              have hg63 : gv62.toInt = ((ik58 : Nat) : Int) := by rw [egv62]; exact hgk58
              have b64 : kb 0 gv62 400 := kb_pos hNk58 hN4 hg63
              exact kI_ret (v := 0) hx hb hr hlocks (by decide +kernel) hK hS dX4_readOrder_112 (f54, a55, g56) hP hD ⟨(kb_w kc_0 (by decide) (by decide)), hI, hG, hE, hk0, ⟨ik58, 0, (by show (f54 1604).toInt = ((ik58 : Nat) : Int); rw [egv62.symm]; exact hg63), (Nat.le_trans (Nat.le_succ_of_le (Nat.le_refl i)) hlek58), hNk58, Or.inr ⟨rfl, (pi_13c (fun q => by have w1 := ((kb_eq hw3.2.symm (⟨by have w1 := qt7; have w2 := (b35).1; omega, by have w1 := qt7; have w2 := (b35).2; omega⟩ : kb 2021 v4 2021))).1; rw [q] at w1; exact absurd w1 (by decide +kernel)) (fun q => by have w1 := ((kb_eq hw3.2.symm (⟨by have w1 := qt7; have w2 := (b35).1; omega, by have w1 := qt7; have w2 := (b35).2; omega⟩ : kb 2021 v4 2021))).1; rcases q with e | e <;> (rw [e] at w1; exact absurd w1 (by decide +kernel))) (c_eq (k := 2021) (by have w1 := ((kb_eq hw3.2.symm (⟨by have w1 := qt7; have w2 := (b35).1; omega, by have w1 := qt7; have w2 := (b35).2; omega⟩ : kb 2021 v4 2021))).1; have w2 := ((kb_eq hw3.2.symm (⟨by have w1 := qt7; have w2 := (b35).1; omega, by have w1 := qt7; have w2 := (b35).2; omega⟩ : kb 2021 v4 2021))).2; omega) (by decide +kernel)) (hGk58 _))⟩⟩⟩
          · exact kb_dj c43 b35 kc_0 (by decide)
        · have b65 : kb 0 t7 2 := kr_neh c34 b18 kc_3 (by decide)
          refine lv_aload_n hx hb dX4_readOrder_46 rfl (lv_at hl 1 rfl) ?_
          refine lv_iconst (v := 0) hx hb dX4_readOrder_47 (by decide) ?_
          refine kIG.callW (As := [.int 0]) (rest := []) ⟨hx, hb, hml, hown, hg⟩ ((y_allSum 8) l r f_33 a23 g24 tx tt hT hI hG 0 (kb_w kc_0 (by decide) (by decide)) N (i + 1) (n) ob T pl hk0 (by rw [(show f_33 1604 = t30 from by rw [← ef_33]; rfl)]; exact hg32) hlt28 ⟨(by rw [((show f_33 1605 = f22 1605 from by rw [← ef_33]; rfl).trans ((eE25.1 1605 rfl).trans ecz5.symm))]; exact hn5), hl5⟩ (by decide +kernel)) (cwV 1 hg (kgV wt4_6 wt4_8 wp1_13 wt1_7 wt4_9) rfl rfl rfl (by decide +kernel) ⟨by decide, by decide⟩) hV hK hP hD hS hA (50) 4 rfl rfl rfl hl.1 rfl (Nat.le_of_ble_eq_true rfl) dX4_readOrder_48 ⟨Nat.le_refl _, Nat.le_refl _⟩ (fun v67 u68 H locs hw66 hP hD hS => ?_)
          obtain ⟨f69, a70, g71⟩ := u68
          have hP : va_P D vwCl (xX K r f69 a70 g71 tx) H := hP
          have hD : va_D A (xX K r f69 a70 g71 tx) := hD
          have hI : xI f69 a70 := hw66.2.1
          have hG : gOK K g71.2 tt := hw66.2.2.1
          have eE72 : xEk [12, 13, 14, 32, 38, 44, 49, 50, 832, 838, 844, 849, 850, 1603, 1606, 1632] f_33 a23 g24 f69 a70 g71 := hw66.2.2.2.1
          have hE : xEk [12, 13, 14, 32, 38, 44, 49, 50, 832, 838, 844, 849, 850, 1603, 1606] f a g f69 a70 g71 := xEk_tr hE (xEk_w (by decide) eE72)
          have hk0 : xQ f69 a70 N ob T pl := hw66.2.2.2.2.1
          obtain ⟨ik73, nk73, hgk73, hlek73, hNk73, hck73⟩ := hw66.2.2.2.2.2
          rcases hck73 with ⟨hvk73, h3k73, hltk73, hGk73⟩ | ⟨hvk73, hGk73⟩
          · refine k_top (z := 1) hvk73 ?_
            obtain ⟨gv74, egv74⟩ : ∃ z : Int32, z = f69 1604 := ⟨_, rfl⟩
            have hg75 : gv74.toInt = ((ik73 : Nat) : Int) := by rw [egv74]; exact hgk73
            have b76 : kb 0 gv74 400 := kb_pos hNk73 hN4 hg75
            obtain ⟨z77, ez77⟩ : ∃ z : Int32, z = f69 1605 := ⟨_, rfl⟩
            have hzz77 : z77.toInt = ((nk73 : Nat) : Int) := by rw [ez77]; exact h3k73.1
            have b78 : kb 0 z77 50 := ⟨by omega, by have w1 := h3k73.2; omega⟩
            refine lv_if_ne (tgt := 56) hx hb dX4_readOrder_51 (by decide) (fun c79 => ?_) (fun c79 => ?_)
            · refine lv_aload_n hx hb dX4_readOrder_56 rfl (lv_at hl 1 rfl) ?_
              refine va_get (D := D) (ci := 4) (v := .ref (r 51)) (C := RX4) (T := TX4) (N := 7) hx hb hg inC4 hown hK hP 50 rfl rfl 0 (by decide) (hg _ wt2_64) (fun _ h9 => h9) rfl dX4_readOrder_57 ?_
              refine lv_iconst (v := 0) hx hb dX4_readOrder_60 (by decide) ?_
              refine kVG.callW (As := [.int 0]) (rest := []) ⟨hx, hb, hml, hown, hg⟩ (y_close l r f69 a70 g71 tx tt hT hI hG 0 (kb_w kc_0 (by decide) (by decide)) ) (cwV 1 hg (kgV wt4_30 wt4_31 wt4_32 wt1_8 wt4_33) rfl rfl rfl (by decide +kernel) ⟨by decide, by decide⟩) hV hK hP hD hS hA (51) 10 rfl rfl rfl hl.1 rfl (Nat.le_of_ble_eq_true rfl) dX4_readOrder_61 ⟨Nat.le_refl _, Nat.le_refl _⟩ (fun u82 H locs hw80 hP hD hS => ?_)
              obtain ⟨f83, a84, g85⟩ := u82
              have hP : va_P D vwCl (xX K r f83 a84 g85 tx) H := hP
              have hD : va_D A (xX K r f83 a84 g85 tx) := hD
              have hI : xI f83 a84 := hw80.1
              have hG : gOK K g85.2 tt := hw80.2.1
              have eE86 : xEk [12, 13, 14, 32, 38, 44, 49, 50, 832, 838, 844, 849, 850, 1603, 1604, 1605, 1606, 1632] f69 a70 g71 f83 a84 g85 := hw80.2.2.1
              have hE : xEk [12, 13, 14, 32, 38, 44, 49, 50, 832, 838, 844, 849, 850, 1603, 1606] f a g f83 a84 g85 := xEk_tr hE (xEk_w (by decide) eE86)
              have hk0 : xQ f83 a84 N ob T pl := xQ_c hk0 (eE86.1 1603 rfl) (eE86.1 1606 rfl) hw80.2.2.2
              refine lv_iload_n hx hb dX4_readOrder_64 rfl (lv_at hl 0 rfl) ?_
              refine lv_if_ne (tgt := 100) hx hb dX4_readOrder_65 (by decide) (fun c87 => ?_) (fun c87 => ?_)
              · have b88 : kb 1 t7 2 := kr_nel c87 b65 kc_0 (by decide)
                refine lv_aload_n hx hb dX4_readOrder_100 rfl (lv_at hl 1 rfl) ?_
                refine va_get (D := D) (ci := 4) (v := .ref (r 51)) (C := RX4) (T := TX4) (N := 7) hx hb hg inC4 hown hK hP 50 rfl rfl 0 (by decide) (hg _ wt2_64) (fun _ h9 => h9) rfl dX4_readOrder_101 ?_
                refine lv_iconst (v := 1) hx hb dX4_readOrder_104 (by decide) ?_
                refine kVG.callW (As := [.int 1]) (rest := []) ⟨hx, hb, hml, hown, hg⟩ (y_close l r f83 a84 g85 tx tt hT hI hG 1 (kb_w kc_1 (by decide) (by decide)) ) (cwV 1 hg (kgV wt4_30 wt4_31 wt4_32 wt1_8 wt4_33) rfl rfl rfl (by decide +kernel) ⟨by decide, by decide⟩) hV hK hP hD hS hA (51) 10 rfl rfl rfl hl.1 rfl (Nat.le_of_ble_eq_true rfl) dX4_readOrder_105 ⟨Nat.le_refl _, Nat.le_refl _⟩ (fun u91 H locs hw89 hP hD hS => ?_)
                obtain ⟨f92, a93, g94⟩ := u91
                have hP : va_P D vwCl (xX K r f92 a93 g94 tx) H := hP
                have hD : va_D A (xX K r f92 a93 g94 tx) := hD
                have hI : xI f92 a93 := hw89.1
                have hG : gOK K g94.2 tt := hw89.2.1
                have eE95 : xEk [12, 13, 14, 32, 38, 44, 49, 50, 832, 838, 844, 849, 850, 1603, 1604, 1605, 1606, 1632] f83 a84 g85 f92 a93 g94 := hw89.2.2.1
                have hE : xEk [12, 13, 14, 32, 38, 44, 49, 50, 832, 838, 844, 849, 850, 1603, 1606] f a g f92 a93 g94 := xEk_tr hE (xEk_w (by decide) eE95)
                have hk0 : xQ f92 a93 N ob T pl := xQ_c hk0 (eE95.1 1603 rfl) (eE95.1 1606 rfl) hw89.2.2.2
                refine lv_aload_n hx hb dX4_readOrder_108 rfl (lv_at hl 1 rfl) ?_
                refine kIG.callW (As := []) (rest := []) ⟨hx, hb, hml, hown, hg⟩ (y_readTimes l r f92 a93 g94 tx tt hT hI hG   N (ik73) ob T pl hk0 (by rw [((eE95.1 1604 rfl).trans ((eE86.1 1604 rfl).trans egv74.symm))]; exact hg75) hNk73) (cwV 0 hg (kgV wt4_34 wt4_36 wp2_2 wt1_7 wt4_37) rfl rfl rfl (by decide +kernel) ⟨by decide, by decide⟩) hV hK hP hD hS hA (50) 4 rfl rfl rfl hl.1 rfl (Nat.le_of_ble_eq_true rfl) dX4_readOrder_109 ⟨Nat.le_refl _, Nat.le_refl _⟩ (fun v97 u98 H locs hw96 hP hD hS => ?_)
                obtain ⟨f99, a100, g101⟩ := u98
                have hP : va_P D vwCl (xX K r f99 a100 g101 tx) H := hP
                have hD : va_D A (xX K r f99 a100 g101 tx) := hD
                have hI : xI f99 a100 := hw96.2.1
                have hG : gOK K g101.2 tt := hw96.2.2.1
                have eE102 : xEk [12, 13, 14, 32, 38, 44, 49, 50, 832, 838, 844, 849, 850, 1603, 1606, 1632, 1605] f92 a93 g94 f99 a100 g101 := hw96.2.2.2.1
                have hE : xEk [12, 13, 14, 32, 38, 44, 49, 50, 832, 838, 844, 849, 850, 1603, 1606] f a g f99 a100 g101 := xEk_tr hE (xEk_w (by decide) eE102)
                have hk0 : xQ f99 a100 N ob T pl := hw96.2.2.2.2.1
                obtain ⟨ik103, hgk103, hlek103, hNk103, hck103⟩ := hw96.2.2.2.2.2
                rcases hck103 with ⟨hvk103, hGk103⟩ | ⟨hvk103, hGk103⟩
                · refine k_top (z := 1) hvk103 ?_
                  obtain ⟨gv104, egv104⟩ : ∃ z : Int32, z = f99 1604 := ⟨_, rfl⟩
                  have hg105 : gv104.toInt = ((ik103 : Nat) : Int) := by rw [egv104]; exact hgk103
                  have b106 : kb 0 gv104 400 := kb_pos hNk103 hN4 hg105
                  exact kI_ret (v := 1) hx hb hr hlocks (by decide +kernel) hK hS dX4_readOrder_112 (f99, a100, g101) hP hD ⟨(kb_w kc_1 (by decide) (by decide)), hI, hG, hE, hk0, ⟨ik103, nk73, (by show (f99 1604).toInt = ((ik103 : Nat) : Int); rw [egv104.symm]; exact hg105), (Nat.le_trans (Nat.le_trans (Nat.le_succ_of_le (Nat.le_refl i)) hlek73) hlek103), hNk103, Or.inl ⟨rfl, ⟨(by show (f99 1605).toInt = ((nk73 : Nat) : Int); rw [((eE102.1 1605 rfl).trans ((eE95.1 1605 rfl).trans ((eE86.1 1605 rfl).trans ez77.symm)))]; exact hzz77), h3k73.2⟩, (by show (f99 1632).toInt = ((cn + 1 : Nat) : Int); rw [((eE102.1 1632 rfl).trans ((eE95.1 1632 rfl).trans ((eE86.1 1632 rfl).trans ((eE72.1 1632 rfl).trans ((show f_33 1632 = f22 1632 from by rw [← ef_33]; rfl).trans ez26.symm)))))]; exact hCz26), fun r h => (pi_13b (fun q => by have w1 := ((kb_eq hw3.2.symm (⟨by have w1 := qt7; have w2 := (b88).1; omega, by have w1 := qt7; have w2 := (b88).2; omega⟩ : kb 2019 v4 2020))).1; rw [q] at w1; exact absurd w1 (by decide +kernel)) (y13 (kb_eq hw3.2.symm (⟨by have w1 := qt7; have w2 := (b88).1; omega, by have w1 := qt7; have w2 := (b88).2; omega⟩ : kb 2019 v4 2020))) (pi_17 hGk73 (hGk103 _ _ h)))⟩⟩⟩
                · refine k_top (z := 0) hvk103 ?_
                  obtain ⟨gv107, egv107⟩ : ∃ z : Int32, z = f99 1604 := ⟨_, rfl⟩
                  have hg108 : gv107.toInt = ((ik103 : Nat) : Int) := by rw [egv107]; exact hgk103
                  have b109 : kb 0 gv107 400 := kb_pos hNk103 hN4 hg108
                  exact kI_ret (v := 0) hx hb hr hlocks (by decide +kernel) hK hS dX4_readOrder_112 (f99, a100, g101) hP hD ⟨(kb_w kc_0 (by decide) (by decide)), hI, hG, hE, hk0, ⟨ik103, 0, (by show (f99 1604).toInt = ((ik103 : Nat) : Int); rw [egv107.symm]; exact hg108), (Nat.le_trans (Nat.le_trans (Nat.le_succ_of_le (Nat.le_refl i)) hlek73) hlek103), hNk103, Or.inr ⟨rfl, (pi_13b (fun q => by have w1 := ((kb_eq hw3.2.symm (⟨by have w1 := qt7; have w2 := (b88).1; omega, by have w1 := qt7; have w2 := (b88).2; omega⟩ : kb 2019 v4 2020))).1; rw [q] at w1; exact absurd w1 (by decide +kernel)) (y13 (kb_eq hw3.2.symm (⟨by have w1 := qt7; have w2 := (b88).1; omega, by have w1 := qt7; have w2 := (b88).2; omega⟩ : kb 2019 v4 2020))) (pi_17 hGk73 (hGk103 _)))⟩⟩⟩
              · have b110 : kb 0 t7 0 := kb_eq c87 kc_0
                refine lv_aload_n hx hb dX4_readOrder_68 rfl (lv_at hl 1 rfl) ?_
                refine kIG.callW (As := []) (rest := []) ⟨hx, hb, hml, hown, hg⟩ (y_inHand l r f83 a84 g85 tx tt hT hI hG   N (ik73) ob T pl hk0 (by rw [((eE86.1 1604 rfl).trans egv74.symm)]; exact hg75) hNk73) (cwV 0 hg (kgV wt3_238 wt4_0 wp1_12 wt1_7 wt4_1) rfl rfl rfl (by decide +kernel) ⟨by decide, by decide⟩) hV hK hP hD hS hA (50) 4 rfl rfl rfl hl.1 rfl (Nat.le_of_ble_eq_true rfl) dX4_readOrder_69 ⟨Nat.le_refl _, Nat.le_refl _⟩ (fun v112 u113 H locs hw111 hP hD hS => ?_)
                have hP : va_P D vwCl (xX K r f83 a84 g85 tx) H := hP
                have hD : va_D A (xX K r f83 a84 g85 tx) := hD
                have b114 : kb 0 v112 4000 := kb_eq hw111.2 (hk0.2.2.2.2.2.2 (ik73))
                refine lv_sipush (v := 2022) hx hb dX4_readOrder_72 (by decide) ?_
                refine lv_icmp_eq (tgt := 80) hx hb dX4_readOrder_75 (by decide) (fun c115 => ?_) (fun c115 => ?_)
                · have b116 : kb 2022 v112 2022 := kb_eq c115 kc_2022
                  refine lv_aload_n hx hb dX4_readOrder_80 rfl (lv_at hl 1 rfl) ?_
                  refine lv_dup hx hb dX4_readOrder_81 rfl ?_
                  have hlt117 : ik73 < N := xQ_lt hk0 (ne_4000 (hw111.2.symm.trans c115) (by decide +kernel))
                  have b118 : kb 0 gv74 399 := kb_pos1 hlt117 hN4 hg75
                  refine va_get (D := D) (ci := 4) (v := .int (f83 1604)) (C := RX4) (T := TX4) (N := 7) hx hb hg inC4 hown hK hP 50 rfl rfl 4 (by decide) (hg _ wt2_69) (fun _ h9 => h9) rfl dX4_readOrder_82 ?_
                  refine k_top (z := gv74) ((eE86.1 1604 rfl).trans egv74.symm) ?_
                  refine lv_iconst (v := 1) hx hb dX4_readOrder_85 (by decide) ?_
                  refine lv_iadd hx hb dX4_readOrder_86 ?_
                  refine lv_topi (fun t119 et119 => ?_)
                  have b120 : kb 1 t119 400 := kb_eq et119 (kb_add b118 kc_1 (by decide) (by decide))
                  have qt119 : t119.toInt = gv74.toInt + 1 := by rw [et119]; exact kt_addc b118 kc_1 (by decide) (by decide)
                  have hg121 : t119.toInt = ((ik73 + 1 : Nat) : Int) := by rw [qt119, hg75]; omega
                  refine va_put (D := D) (ci := 4) (v := .int t119) (ty := .int) (C := RX4) (T := TX4) (N := 7) hx hb hg inC4 tyX4 tyX4_ok nmX4 hown hK hP hD hS 50 rfl rfl 4 (by decide) (hg _ wt2_69) (fun _ h9 => h9) rfl (by decide +kernel) rfl rfl (Nat.le_of_ble_eq_true rfl) dX4_readOrder_87 (fun H locs hP hD hS => ?_)
                  have hP : va_P D vwCl (xX K r (upd f83 1604 t119) a84 g85 tx) H := hP
                  have hD : va_D A (xX K r (upd f83 1604 t119) a84 g85 tx) := hD
                  refine k_gen (P := fun z => va_P D vwCl (xX K r z a84 g85 tx) H ∧ va_D A (xX K r z a84 g85 tx) ∧ (xI z a84) ∧ (gOK K g85.2 tt) ∧ (xEk [12, 13, 14, 32, 38, 44, 49, 50, 832, 838, 844, 849, 850, 1603, 1606] f a g z a84 g85) ∧ (xQ z a84 N ob T pl)) (upd f83 1604 t119) ⟨hP, hD, (xI_f hI (fI_st hI.1 1604 (kb_any _) (by decide) (by decide))), hG, (xEk_f hE (by decide)), (xQ_f hk0 (by decide) (by decide))⟩ (fun f_122 ef_122 hq => ?_)
                  obtain ⟨hP, hD, hI, hG, hE, hk0⟩ := hq
                  refine lv_aload_n hx hb dX4_readOrder_90 rfl (lv_at hl 1 rfl) ?_
                  refine lv_iconst (v := 0) hx hb dX4_readOrder_91 (by decide) ?_
                  refine kIG.callW (As := [.int 0]) (rest := []) ⟨hx, hb, hml, hown, hg⟩ ((y_allSum 8) l r f_122 a84 g85 tx tt hT hI hG 0 (kb_w kc_0 (by decide) (by decide)) N (ik73 + 1) (nk73) ob T pl hk0 (by rw [(show f_122 1604 = t119 from by rw [← ef_122]; rfl)]; exact hg121) hlt117 ⟨(by rw [((show f_122 1605 = f83 1605 from by rw [← ef_122]; rfl).trans ((eE86.1 1605 rfl).trans ez77.symm))]; exact hzz77), h3k73.2⟩ (by decide +kernel)) (cwV 1 hg (kgV wt4_6 wt4_8 wp1_13 wt1_7 wt4_9) rfl rfl rfl (by decide +kernel) ⟨by decide, by decide⟩) hV hK hP hD hS hA (50) 4 rfl rfl rfl hl.1 rfl (Nat.le_of_ble_eq_true rfl) dX4_readOrder_92 ⟨Nat.le_refl _, Nat.le_refl _⟩ (fun v124 u125 H locs hw123 hP hD hS => ?_)
                  obtain ⟨f126, a127, g128⟩ := u125
                  have hP : va_P D vwCl (xX K r f126 a127 g128 tx) H := hP
                  have hD : va_D A (xX K r f126 a127 g128 tx) := hD
                  have hI : xI f126 a127 := hw123.2.1
                  have hG : gOK K g128.2 tt := hw123.2.2.1
                  have eE129 : xEk [12, 13, 14, 32, 38, 44, 49, 50, 832, 838, 844, 849, 850, 1603, 1606, 1632] f_122 a84 g85 f126 a127 g128 := hw123.2.2.2.1
                  have hE : xEk [12, 13, 14, 32, 38, 44, 49, 50, 832, 838, 844, 849, 850, 1603, 1606] f a g f126 a127 g128 := xEk_tr hE (xEk_w (by decide) eE129)
                  have hk0 : xQ f126 a127 N ob T pl := hw123.2.2.2.2.1
                  obtain ⟨ik130, nk130, hgk130, hlek130, hNk130, hck130⟩ := hw123.2.2.2.2.2
                  rcases hck130 with ⟨hvk130, h3k130, hltk130, hGk130⟩ | ⟨hvk130, hGk130⟩
                  · refine k_top (z := 1) hvk130 ?_
                    obtain ⟨gv131, egv131⟩ : ∃ z : Int32, z = f126 1604 := ⟨_, rfl⟩
                    have hg132 : gv131.toInt = ((ik130 : Nat) : Int) := by rw [egv131]; exact hgk130
                    have b133 : kb 0 gv131 400 := kb_pos hNk130 hN4 hg132
                    obtain ⟨z134, ez134⟩ : ∃ z : Int32, z = f126 1605 := ⟨_, rfl⟩
                    have hzz134 : z134.toInt = ((nk130 : Nat) : Int) := by rw [ez134]; exact h3k130.1
                    have b135 : kb 0 z134 50 := ⟨by omega, by have w1 := h3k130.2; omega⟩
                    refine lv_if_ne (tgt := 100) hx hb dX4_readOrder_95 (by decide) (fun c136 => ?_) (fun c136 => ?_)
                    · refine lv_aload_n hx hb dX4_readOrder_100 rfl (lv_at hl 1 rfl) ?_
                      refine va_get (D := D) (ci := 4) (v := .ref (r 51)) (C := RX4) (T := TX4) (N := 7) hx hb hg inC4 hown hK hP 50 rfl rfl 0 (by decide) (hg _ wt2_64) (fun _ h9 => h9) rfl dX4_readOrder_101 ?_
                      refine lv_iconst (v := 1) hx hb dX4_readOrder_104 (by decide) ?_
                      refine kVG.callW (As := [.int 1]) (rest := []) ⟨hx, hb, hml, hown, hg⟩ (y_close l r f126 a127 g128 tx tt hT hI hG 1 (kb_w kc_1 (by decide) (by decide)) ) (cwV 1 hg (kgV wt4_30 wt4_31 wt4_32 wt1_8 wt4_33) rfl rfl rfl (by decide +kernel) ⟨by decide, by decide⟩) hV hK hP hD hS hA (51) 10 rfl rfl rfl hl.1 rfl (Nat.le_of_ble_eq_true rfl) dX4_readOrder_105 ⟨Nat.le_refl _, Nat.le_refl _⟩ (fun u139 H locs hw137 hP hD hS => ?_)
                      obtain ⟨f140, a141, g142⟩ := u139
                      have hP : va_P D vwCl (xX K r f140 a141 g142 tx) H := hP
                      have hD : va_D A (xX K r f140 a141 g142 tx) := hD
                      have hI : xI f140 a141 := hw137.1
                      have hG : gOK K g142.2 tt := hw137.2.1
                      have eE143 : xEk [12, 13, 14, 32, 38, 44, 49, 50, 832, 838, 844, 849, 850, 1603, 1604, 1605, 1606, 1632] f126 a127 g128 f140 a141 g142 := hw137.2.2.1
                      have hE : xEk [12, 13, 14, 32, 38, 44, 49, 50, 832, 838, 844, 849, 850, 1603, 1606] f a g f140 a141 g142 := xEk_tr hE (xEk_w (by decide) eE143)
                      have hk0 : xQ f140 a141 N ob T pl := xQ_c hk0 (eE143.1 1603 rfl) (eE143.1 1606 rfl) hw137.2.2.2
                      refine lv_aload_n hx hb dX4_readOrder_108 rfl (lv_at hl 1 rfl) ?_
                      refine kIG.callW (As := []) (rest := []) ⟨hx, hb, hml, hown, hg⟩ (y_readTimes l r f140 a141 g142 tx tt hT hI hG   N (ik130) ob T pl hk0 (by rw [((eE143.1 1604 rfl).trans egv131.symm)]; exact hg132) hNk130) (cwV 0 hg (kgV wt4_34 wt4_36 wp2_2 wt1_7 wt4_37) rfl rfl rfl (by decide +kernel) ⟨by decide, by decide⟩) hV hK hP hD hS hA (50) 4 rfl rfl rfl hl.1 rfl (Nat.le_of_ble_eq_true rfl) dX4_readOrder_109 ⟨Nat.le_refl _, Nat.le_refl _⟩ (fun v145 u146 H locs hw144 hP hD hS => ?_)
                      obtain ⟨f147, a148, g149⟩ := u146
                      have hP : va_P D vwCl (xX K r f147 a148 g149 tx) H := hP
                      have hD : va_D A (xX K r f147 a148 g149 tx) := hD
                      have hI : xI f147 a148 := hw144.2.1
                      have hG : gOK K g149.2 tt := hw144.2.2.1
                      have eE150 : xEk [12, 13, 14, 32, 38, 44, 49, 50, 832, 838, 844, 849, 850, 1603, 1606, 1632, 1605] f140 a141 g142 f147 a148 g149 := hw144.2.2.2.1
                      have hE : xEk [12, 13, 14, 32, 38, 44, 49, 50, 832, 838, 844, 849, 850, 1603, 1606] f a g f147 a148 g149 := xEk_tr hE (xEk_w (by decide) eE150)
                      have hk0 : xQ f147 a148 N ob T pl := hw144.2.2.2.2.1
                      obtain ⟨ik151, hgk151, hlek151, hNk151, hck151⟩ := hw144.2.2.2.2.2
                      rcases hck151 with ⟨hvk151, hGk151⟩ | ⟨hvk151, hGk151⟩
                      · refine k_top (z := 1) hvk151 ?_
                        obtain ⟨gv152, egv152⟩ : ∃ z : Int32, z = f147 1604 := ⟨_, rfl⟩
                        have hg153 : gv152.toInt = ((ik151 : Nat) : Int) := by rw [egv152]; exact hgk151
                        have b154 : kb 0 gv152 400 := kb_pos hNk151 hN4 hg153
                        exact kI_ret (v := 1) hx hb hr hlocks (by decide +kernel) hK hS dX4_readOrder_112 (f147, a148, g149) hP hD ⟨(kb_w kc_1 (by decide) (by decide)), hI, hG, hE, hk0, ⟨ik151, nk130, (by show (f147 1604).toInt = ((ik151 : Nat) : Int); rw [egv152.symm]; exact hg153), (Nat.le_trans (Nat.le_trans (Nat.le_succ_of_le (Nat.le_trans (Nat.le_succ_of_le (Nat.le_refl i)) hlek73)) hlek130) hlek151), hNk151, Or.inl ⟨rfl, ⟨(by show (f147 1605).toInt = ((nk130 : Nat) : Int); rw [((eE150.1 1605 rfl).trans ((eE143.1 1605 rfl).trans ez134.symm))]; exact hzz134), h3k130.2⟩, (by show (f147 1632).toInt = ((cn + 1 : Nat) : Int); rw [((eE150.1 1632 rfl).trans ((eE143.1 1632 rfl).trans ((eE129.1 1632 rfl).trans ((show f_122 1632 = f83 1632 from by rw [← ef_122]; rfl).trans ((eE86.1 1632 rfl).trans ((eE72.1 1632 rfl).trans ((show f_33 1632 = f22 1632 from by rw [← ef_33]; rfl).trans ez26.symm)))))))]; exact hCz26), fun r h => (pi_13a (c_eq (k := 2018) (by have w1 := ((kb_eq hw3.2.symm (⟨by have w1 := qt7; have w2 := (b110).1; omega, by have w1 := qt7; have w2 := (b110).2; omega⟩ : kb 2018 v4 2018))).1; have w2 := ((kb_eq hw3.2.symm (⟨by have w1 := qt7; have w2 := (b110).1; omega, by have w1 := qt7; have w2 := (b110).2; omega⟩ : kb 2018 v4 2018))).2; omega) (by decide +kernel)) hGk73 (hw111.2.symm.trans c115) (pi_17 hGk130 (hGk151 _ _ h)))⟩⟩⟩
                      · refine k_top (z := 0) hvk151 ?_
                        obtain ⟨gv155, egv155⟩ : ∃ z : Int32, z = f147 1604 := ⟨_, rfl⟩
                        have hg156 : gv155.toInt = ((ik151 : Nat) : Int) := by rw [egv155]; exact hgk151
                        have b157 : kb 0 gv155 400 := kb_pos hNk151 hN4 hg156
                        exact kI_ret (v := 0) hx hb hr hlocks (by decide +kernel) hK hS dX4_readOrder_112 (f147, a148, g149) hP hD ⟨(kb_w kc_0 (by decide) (by decide)), hI, hG, hE, hk0, ⟨ik151, 0, (by show (f147 1604).toInt = ((ik151 : Nat) : Int); rw [egv155.symm]; exact hg156), (Nat.le_trans (Nat.le_trans (Nat.le_succ_of_le (Nat.le_trans (Nat.le_succ_of_le (Nat.le_refl i)) hlek73)) hlek130) hlek151), hNk151, Or.inr ⟨rfl, (pi_13a (c_eq (k := 2018) (by have w1 := ((kb_eq hw3.2.symm (⟨by have w1 := qt7; have w2 := (b110).1; omega, by have w1 := qt7; have w2 := (b110).2; omega⟩ : kb 2018 v4 2018))).1; have w2 := ((kb_eq hw3.2.symm (⟨by have w1 := qt7; have w2 := (b110).1; omega, by have w1 := qt7; have w2 := (b110).2; omega⟩ : kb 2018 v4 2018))).2; omega) (by decide +kernel)) hGk73 (hw111.2.symm.trans c115) (pi_17 hGk130 (hGk151 _)))⟩⟩⟩
                    · exact kb_dj c136 kc_1 kc_0 (by decide)
                  · refine k_top (z := 0) hvk130 ?_
                    obtain ⟨gv158, egv158⟩ : ∃ z : Int32, z = f126 1604 := ⟨_, rfl⟩
                    have hg159 : gv158.toInt = ((ik130 : Nat) : Int) := by rw [egv158]; exact hgk130
                    have b160 : kb 0 gv158 400 := kb_pos hNk130 hN4 hg159
                    refine lv_if_ne (tgt := 100) hx hb dX4_readOrder_95 (by decide) (fun c161 => ?_) (fun c161 => ?_)
                    · exact kb_nsame c161 kc_0 kc_0
                    · refine lv_iconst (v := 0) hx hb dX4_readOrder_98 (by decide) ?_
                      exact kI_ret (v := 0) hx hb hr hlocks (by decide +kernel) hK hS dX4_readOrder_99 (f126, a127, g128) hP hD ⟨(kb_w kc_0 (by decide) (by decide)), hI, hG, hE, hk0, ⟨ik130, 0, (by show (f126 1604).toInt = ((ik130 : Nat) : Int); rw [egv158.symm]; exact hg159), (Nat.le_trans (Nat.le_succ_of_le (Nat.le_trans (Nat.le_succ_of_le (Nat.le_refl i)) hlek73)) hlek130), hNk130, Or.inr ⟨rfl, (pi_13a (c_eq (k := 2018) (by have w1 := ((kb_eq hw3.2.symm (⟨by have w1 := qt7; have w2 := (b110).1; omega, by have w1 := qt7; have w2 := (b110).2; omega⟩ : kb 2018 v4 2018))).1; have w2 := ((kb_eq hw3.2.symm (⟨by have w1 := qt7; have w2 := (b110).1; omega, by have w1 := qt7; have w2 := (b110).2; omega⟩ : kb 2018 v4 2018))).2; omega) (by decide +kernel)) hGk73 (hw111.2.symm.trans c115) (pi_17f hGk130))⟩⟩⟩
                · refine lv_iconst (v := 0) hx hb dX4_readOrder_78 (by decide) ?_
                  exact kI_ret (v := 0) hx hb hr hlocks (by decide +kernel) hK hS dX4_readOrder_79 (f83, a84, g85) hP hD ⟨(kb_w kc_0 (by decide) (by decide)), hI, hG, hE, hk0, ⟨ik73, 0, (by show (f83 1604).toInt = ((ik73 : Nat) : Int); rw [((eE86.1 1604 rfl).trans egv74.symm)]; exact hg75), (Nat.le_trans (Nat.le_succ_of_le (Nat.le_refl i)) hlek73), hNk73, Or.inr ⟨rfl, (pi_13n (c_eq (k := 2018) (by have w1 := ((kb_eq hw3.2.symm (⟨by have w1 := qt7; have w2 := (b110).1; omega, by have w1 := qt7; have w2 := (b110).2; omega⟩ : kb 2018 v4 2018))).1; have w2 := ((kb_eq hw3.2.symm (⟨by have w1 := qt7; have w2 := (b110).1; omega, by have w1 := qt7; have w2 := (b110).2; omega⟩ : kb 2018 v4 2018))).2; omega) (by decide +kernel)) hGk73 (fun q => c115 (hw111.2.trans q)))⟩⟩⟩
            · exact kb_dj c79 kc_1 kc_0 (by decide)
          · refine k_top (z := 0) hvk73 ?_
            obtain ⟨gv162, egv162⟩ : ∃ z : Int32, z = f69 1604 := ⟨_, rfl⟩
            have hg163 : gv162.toInt = ((ik73 : Nat) : Int) := by rw [egv162]; exact hgk73
            have b164 : kb 0 gv162 400 := kb_pos hNk73 hN4 hg163
            refine lv_if_ne (tgt := 56) hx hb dX4_readOrder_51 (by decide) (fun c165 => ?_) (fun c165 => ?_)
            · exact kb_nsame c165 kc_0 kc_0
            · refine lv_iconst (v := 0) hx hb dX4_readOrder_54 (by decide) ?_
              exact kI_ret (v := 0) hx hb hr hlocks (by decide +kernel) hK hS dX4_readOrder_55 (f69, a70, g71) hP hD ⟨(kb_w kc_0 (by decide) (by decide)), hI, hG, hE, hk0, ⟨ik73, 0, (by show (f69 1604).toInt = ((ik73 : Nat) : Int); rw [egv162.symm]; exact hg163), (Nat.le_trans (Nat.le_succ_of_le (Nat.le_refl i)) hlek73), hNk73, Or.inr ⟨rfl, (by have w1 := (kb_eq hw3.2.symm (⟨by have w1 := qt7; have w2 := (b65).1; omega, by have w1 := qt7; have w2 := (b65).2; omega⟩ : kb 2018 v4 2020)); have w2 := w1.1; have w3 := w1.2; by_cases e : T i = 2018; (exact pi_13f e hGk73); exact pi_13b e (y13 ⟨by have w4 : ¬ (T i).toInt = 2018 := (fun z => e (c_eq z (by decide +kernel))); omega, w3⟩) (pi_17f hGk73))⟩⟩⟩
      · exact kb_dj c27 kc_1 kc_0 (by decide)
