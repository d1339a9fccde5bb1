theorem mB_3 {k i : Nat} (hk : k < 2) (hi : i < 5714) : mBa 3 (5714 * k + i) = mBa 2 i := by
  unfold mBa
  rw [if_neg (show ¬ (3 : Nat) = 2 by decide), if_pos (rfl : (3 : Nat) = 3), if_pos (rfl : (2 : Nat) = 2)]
  rcases (by omega : k = 0 ∨ k = 1) with e | e
  · have h1 : 5714 * k + i = i := by omega
    rw [h1, if_pos (by omega)]
  · have h1 : 5714 * k + i = i + 5714 := by omega
    rw [h1, if_neg (by omega), if_pos (by omega), Nat.add_sub_cancel]
theorem kq_3 {x k t : Int32} (bx : kb 0 x 5713) (bk : kb 0 k 1) (e : t.toInt = 5714 * k.toInt + x.toInt) : mBa 3 t.toNatClampNeg = mBa 2 x.toNatClampNeg := by
  have b1 := bx.1; have b2 := bx.2; have b3 := bk.1; have b4 := bk.2
  have e1 : t.toNatClampNeg = 5714 * k.toNatClampNeg + x.toNatClampNeg := by unfold Int32.toNatClampNeg; omega
  rw [e1]
  exact mB_3 (by unfold Int32.toNatClampNeg; omega) (by unfold Int32.toNatClampNeg; omega)
theorem mT_c2 {k k' : Nat → Int32} (h : ∀ i, i < 5714 → k' i = k i) (hs : ∀ t, t < 6 → (k (107 + t)).toInt ≤ 400) (q : mT k) : mT k' := by
  intro t ht
  have e1 := h (107 + t) (by omega)
  have e2 : mC k' t = mC k t := by
    funext i
    unfold mC
    rw [e1]
    by_cases q : (i : Int) < (k (107 + t)).toInt
    · have := hs t ht
      rw [if_pos q, if_pos q, h (114 + 400 * t + i) (by omega)]
    · rw [if_neg q, if_neg q]
  rw [e1, e2]
  exact q t ht
theorem szB3 {a : Nat → Nat → Int32} (h : aI mBa a) (k t : Nat) (hk : k < 2) (ht : t < 7) : (a 3 (5714 * k + (107 + t))).toInt ≤ 400 := by
  have e : mBa 3 (5714 * k + (107 + t)) = (0, 400) := by
    rw [mB_3 hk (by omega)]
    show mB2 (107 + t) = (0, 400)
    unfold mB2
    rw [if_neg (by omega), if_neg (by omega), if_neg (by omega), if_neg (by omega), if_neg (by omega), if_neg (by omega), if_neg (by omega), if_neg (by omega), if_neg (by omega), if_neg (by omega), if_neg (by omega), if_neg (by omega), if_neg (by omega), if_pos (by omega)]
  have := (h 3 (5714 * k + (107 + t))).2
  rw [e] at this
  exact this
/-- a world whose images are on the way -/
def mH (f : Nat → Int32) (a : Nat → Nat → Int32) : Prop := fI mBf f ∧ aI mBa a ∧ mT (a 2)
theorem mH_of {f : Nat → Int32} {a : Nat → Nat → Int32} (h : mI f a) : mH f a := ⟨h.1, h.2.1, h.2.2.1⟩
theorem mH_s {f : Nat → Int32} {a : Nat → Nat → Int32} (h : mH f a) {s : Nat} {u : Nat → Int32} (q : aI mBa (va_up a s u)) (n2 : s ≠ 2) : mH f (va_up a s u) := by
  have e2 : va_up a s u 2 = a 2 := by unfold va_up; rw [if_neg (Ne.symm n2)]
  exact ⟨h.1, q, by rw [e2]; exact h.2.2⟩
theorem mI_img {f0 f : Nat → Int32} {a0 a : Nat → Nat → Int32} {k : Nat} (h0 : mI f0 a0) (h : mH f a) (hk : k < 2) (e : a 3 = mCp (a0 2) (a0 3) 0 (5714 * k) 5714) : mI f a := by
  refine ⟨h.1, h.2.1, h.2.2, ?_, ?_⟩
  · rcases (by omega : k = 0 ∨ k = 1) with q | q
    · refine mT_c2 (fun i hi => ?_) (fun t ht => szB h0.2.1 t (by omega)) h0.2.2.1
      rw [e]; unfold mCp; rw [if_pos (by omega)]; congr 1; omega
    · refine mT_c2 (fun i hi => ?_) (fun t ht => by have := szB3 h0.2.1 0 t (by decide) (by omega); rw [(by omega : 5714 * 0 + (107 + t) = 107 + t)] at this; exact this) h0.2.2.2.1
      rw [e]; unfold mCp; rw [if_neg (by omega)]
  · rcases (by omega : k = 0 ∨ k = 1) with q | q
    · refine mT_c2 (k := fun i => a0 3 (i + 5714)) (fun i hi => ?_) (fun t ht => by have := szB3 h0.2.1 1 t (by decide) (by omega); rw [(by omega : 5714 * 1 + (107 + t) = 107 + t + 5714)] at this; exact this) h0.2.2.2.2
      show a 3 (i + 5714) = a0 3 (i + 5714)
      rw [e]; unfold mCp; rw [if_neg (by omega)]
    · refine mT_c2 (k := a0 2) (fun i hi => ?_) (fun t ht => szB h0.2.1 t (by omega)) h0.2.2.1
      show a 3 (i + 5714) = a0 2 i
      rw [e]; unfold mCp; rw [if_pos (by omega)]; congr 1; omega
theorem mI_bck {f0 f : Nat → Int32} {a0 a : Nat → Nat → Int32} {k : Nat} (h0 : mI f0 a0) (h : mJ f a) (hk : k < 2) (e : a 2 = mCp (a0 3) (a0 2) (5714 * k) 0 5714) : mI f a := by
  refine ⟨h.1, h.2.1, ?_, h.2.2.1, h.2.2.2⟩
  rcases (by omega : k = 0 ∨ k = 1) with q | q
  · refine mT_c2 (k := a0 3) (fun i hi => ?_) (fun t ht => by have := szB3 h0.2.1 0 t (by decide) (by omega); rw [(by omega : 5714 * 0 + (107 + t) = 107 + t)] at this; exact this) h0.2.2.2.1
    rw [e]; unfold mCp; rw [if_pos (by omega)]; congr 1; omega
  · refine mT_c2 (k := fun i => a0 3 (i + 5714)) (fun i hi => ?_) (fun t ht => by have := szB3 h0.2.1 1 t (by decide) (by omega); rw [(by omega : 5714 * 1 + (107 + t) = 107 + t + 5714)] at this; exact this) h0.2.2.2.2
    rw [e]; unfold mCp; rw [if_pos (by omega)]; congr 1; omega
theorem mE_all {f f' : Nat → Int32} {a a' : Nat → Nat → Int32} (h : mE (XR []) f a f' a') : a' 2 = a 2 := funext (fun i => h.2.2.1 i rfl)
theorem dX12_image_0 : decode cX12_image 0 = .ok (.iload_n 1, 1) := by decide +kernel
theorem dX12_image_1 : decode cX12_image 1 = .ok (.iconst 0, 1) := by decide +kernel
theorem dX12_image_2 : decode cX12_image 2 = .ok (.iconst 1, 1) := by decide +kernel
theorem dX12_image_3 : decode cX12_image 3 = .ok (.invokestatic 96, 3) := by decide +kernel
theorem dX12_image_6 : decode cX12_image 6 = .ok (.ifCond .ne 9, 3) := by decide +kernel
theorem dX12_image_9 : decode cX12_image 9 = .ok (.aload_n 0, 1) := by decide +kernel
theorem dX12_image_10 : decode cX12_image 10 = .ok (.iconst (-1), 1) := by decide +kernel
theorem dX12_image_11 : decode cX12_image 11 = .ok (.invokevirtual 100, 3) := by decide +kernel
theorem dX12_image_14 : decode cX12_image 14 = .ok (.ireturn, 1) := by decide +kernel
theorem dX12_image_15 : decode cX12_image 15 = .ok (.iconst 0, 1) := by decide +kernel
theorem dX12_image_16 : decode cX12_image 16 = .ok (.istore_n 2, 1) := by decide +kernel
theorem dX12_image_17 : decode cX12_image 17 = .ok (.iload_n 2, 1) := by decide +kernel
theorem dX12_image_18 : decode cX12_image 18 = .ok (.sipush 5714, 3) := by decide +kernel
theorem dX12_image_21 : decode cX12_image 21 = .ok (.if_icmp .ge 27, 3) := by decide +kernel
theorem dX12_image_24 : decode cX12_image 24 = .ok (.aload_n 0, 1) := by decide +kernel
theorem dX12_image_25 : decode cX12_image 25 = .ok (.getfield 27, 3) := by decide +kernel
theorem dX12_image_28 : decode cX12_image 28 = .ok (.sipush 5714, 3) := by decide +kernel
theorem dX12_image_31 : decode cX12_image 31 = .ok (.iload_n 1, 1) := by decide +kernel
theorem dX12_image_32 : decode cX12_image 32 = .ok (.imul, 1) := by decide +kernel
theorem dX12_image_33 : decode cX12_image 33 = .ok (.iload_n 2, 1) := by decide +kernel
theorem dX12_image_34 : decode cX12_image 34 = .ok (.iadd, 1) := by decide +kernel
theorem dX12_image_35 : decode cX12_image 35 = .ok (.aload_n 0, 1) := by decide +kernel
theorem dX12_image_36 : decode cX12_image 36 = .ok (.getfield 24, 3) := by decide +kernel
theorem dX12_image_39 : decode cX12_image 39 = .ok (.iload_n 2, 1) := by decide +kernel
theorem dX12_image_40 : decode cX12_image 40 = .ok (.iaload, 1) := by decide +kernel
theorem dX12_image_41 : decode cX12_image 41 = .ok (.iastore, 1) := by decide +kernel
theorem dX12_image_42 : decode cX12_image 42 = .ok (.iinc 2 1, 3) := by decide +kernel
theorem dX12_image_45 : decode cX12_image 45 = .ok (.goto (-28), 3) := by decide +kernel
theorem dX12_image_48 : decode cX12_image 48 = .ok (.aload_n 0, 1) := by decide +kernel
theorem dX12_image_49 : decode cX12_image 49 = .ok (.getfield 30, 3) := by decide +kernel
theorem dX12_image_52 : decode cX12_image 52 = .ok (.iload_n 1, 1) := by decide +kernel
theorem dX12_image_53 : decode cX12_image 53 = .ok (.iconst 1, 1) := by decide +kernel
theorem dX12_image_54 : decode cX12_image 54 = .ok (.bastore, 1) := by decide +kernel
theorem dX12_image_55 : decode cX12_image 55 = .ok (.aload_n 0, 1) := by decide +kernel
theorem dX12_image_56 : decode cX12_image 56 = .ok (.iconst 0, 1) := by decide +kernel
theorem dX12_image_57 : decode cX12_image 57 = .ok (.invokevirtual 14, 3) := by decide +kernel
theorem dX12_image_60 : decode cX12_image 60 = .ok (.ireturn, 1) := by decide +kernel
theorem dX12_back_0 : decode cX12_back 0 = .ok (.iload_n 1, 1) := by decide +kernel
theorem dX12_back_1 : decode cX12_back 1 = .ok (.iconst 0, 1) := by decide +kernel
theorem dX12_back_2 : decode cX12_back 2 = .ok (.iconst 1, 1) := by decide +kernel
theorem dX12_back_3 : decode cX12_back 3 = .ok (.invokestatic 96, 3) := by decide +kernel
theorem dX12_back_6 : decode cX12_back 6 = .ok (.ifCond .ne 9, 3) := by decide +kernel
theorem dX12_back_9 : decode cX12_back 9 = .ok (.aload_n 0, 1) := by decide +kernel
theorem dX12_back_10 : decode cX12_back 10 = .ok (.iconst (-1), 1) := by decide +kernel
theorem dX12_back_11 : decode cX12_back 11 = .ok (.invokevirtual 100, 3) := by decide +kernel
theorem dX12_back_14 : decode cX12_back 14 = .ok (.ireturn, 1) := by decide +kernel
theorem dX12_back_15 : decode cX12_back 15 = .ok (.aload_n 0, 1) := by decide +kernel
theorem dX12_back_16 : decode cX12_back 16 = .ok (.getfield 30, 3) := by decide +kernel
theorem dX12_back_19 : decode cX12_back 19 = .ok (.iload_n 1, 1) := by decide +kernel
theorem dX12_back_20 : decode cX12_back 20 = .ok (.baload, 1) := by decide +kernel
theorem dX12_back_21 : decode cX12_back 21 = .ok (.ifCond .ne 10, 3) := by decide +kernel
theorem dX12_back_24 : decode cX12_back 24 = .ok (.aload_n 0, 1) := by decide +kernel
theorem dX12_back_25 : decode cX12_back 25 = .ok (.bipush (-2), 2) := by decide +kernel
theorem dX12_back_27 : decode cX12_back 27 = .ok (.invokevirtual 100, 3) := by decide +kernel
theorem dX12_back_30 : decode cX12_back 30 = .ok (.ireturn, 1) := by decide +kernel
theorem dX12_back_31 : decode cX12_back 31 = .ok (.iconst 0, 1) := by decide +kernel
theorem dX12_back_32 : decode cX12_back 32 = .ok (.istore_n 2, 1) := by decide +kernel
theorem dX12_back_33 : decode cX12_back 33 = .ok (.iload_n 2, 1) := by decide +kernel
theorem dX12_back_34 : decode cX12_back 34 = .ok (.sipush 5714, 3) := by decide +kernel
theorem dX12_back_37 : decode cX12_back 37 = .ok (.if_icmp .ge 27, 3) := by decide +kernel
theorem dX12_back_40 : decode cX12_back 40 = .ok (.aload_n 0, 1) := by decide +kernel
theorem dX12_back_41 : decode cX12_back 41 = .ok (.getfield 24, 3) := by decide +kernel
theorem dX12_back_44 : decode cX12_back 44 = .ok (.iload_n 2, 1) := by decide +kernel
theorem dX12_back_45 : decode cX12_back 45 = .ok (.aload_n 0, 1) := by decide +kernel
theorem dX12_back_46 : decode cX12_back 46 = .ok (.getfield 27, 3) := by decide +kernel
theorem dX12_back_49 : decode cX12_back 49 = .ok (.sipush 5714, 3) := by decide +kernel
theorem dX12_back_52 : decode cX12_back 52 = .ok (.iload_n 1, 1) := by decide +kernel
theorem dX12_back_53 : decode cX12_back 53 = .ok (.imul, 1) := by decide +kernel
theorem dX12_back_54 : decode cX12_back 54 = .ok (.iload_n 2, 1) := by decide +kernel
theorem dX12_back_55 : decode cX12_back 55 = .ok (.iadd, 1) := by decide +kernel
theorem dX12_back_56 : decode cX12_back 56 = .ok (.iaload, 1) := by decide +kernel
theorem dX12_back_57 : decode cX12_back 57 = .ok (.iastore, 1) := by decide +kernel
theorem dX12_back_58 : decode cX12_back 58 = .ok (.iinc 2 1, 3) := by decide +kernel
theorem dX12_back_61 : decode cX12_back 61 = .ok (.goto (-28), 3) := by decide +kernel
theorem dX12_back_64 : decode cX12_back 64 = .ok (.aload_n 0, 1) := by decide +kernel
theorem dX12_back_65 : decode cX12_back 65 = .ok (.iconst 0, 1) := by decide +kernel
theorem dX12_back_66 : decode cX12_back 66 = .ok (.invokevirtual 103, 3) := by decide +kernel
theorem dX12_back_69 : decode cX12_back 69 = .ok (.ireturn, 1) := by decide +kernel
theorem kc_5714 : kb 5714 5714 5714 := ⟨by decide +kernel, by decide +kernel⟩
theorem mLies_in {x : Int32} (h : 0 ≤ x.toInt ∧ x.toInt ≤ 1) : mLies x 0 1 = 1 := by
  have e0 : (0 : Int32).toInt = 0 := by decide +kernel
  have e1 : (1 : Int32).toInt = 1 := by decide +kernel
  unfold mLies
  rw [if_neg (by rw [Int32.lt_iff_toInt_lt]; omega), if_neg (by rw [Int32.lt_iff_toInt_lt]; omega)]