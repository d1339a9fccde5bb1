theorem szB {a : Nat → Nat → Int32} (h : aI mBa a) (t : Nat) (ht : t < 7) : (a 2 (107 + t)).toInt ≤ 400 := by
  have e : mBa 2 (107 + t) = (0, 400) := by
    show mB2 (107 + t) = (0, 400)
    unfold mB2
    rw [if_neg (by omega), if_neg (by omega), if_neg (by omega), if_neg (by omega), if_neg (by omega), if_neg (by omega), if_neg (by omega), if_neg (by omega), if_neg (by omega), if_neg (by omega), if_neg (by omega), if_neg (by omega), if_neg (by omega), if_pos (by omega)]
  have := (h 2 (107 + t)).2
  rw [e] at this
  exact this
theorem XR1 {x : Int32} {l h : Int} {A B : Nat} {M : List (Nat × Nat)} (b : kb l x h) (p : 0 ≤ l) (q1 : (A : Int) ≤ l) (q2 : h < (B : Int)) (hm : (A, B) ∈ M) : XR M x.toNatClampNeg = true := by
  have := b.1; have := b.2; have e := kb_cl b p
  unfold XR
  refine List.any_eq_true.mpr ⟨(A, B), hm, ?_⟩
  rw [Bool.and_eq_true, decide_eq_true_iff, decide_eq_true_iff]
  exact ⟨by show A ≤ _; omega, by show _ < B; omega⟩
theorem rS_f {f : Nat → Int32} {a : Nat → Nat → Int32} {N : Nat} {ob : Bool} (h : rS f a N ob) {k : Nat} {v : Int32} (n1 : (18 : Nat) ≠ k) (n2 : (10 : Nat) ≠ k) (n3 : (8 : Nat) ≠ k) (n4 : (9 : Nat) ≠ k) : rS (upd f k v) a N ob := ⟨by rw [pk_un n1]; exact h.1, h.2.1, h.2.2.1, by rw [pk_un n2]; exact h.2.2.2.1, by rw [pk_un n3]; exact h.2.2.2.2.1, by rw [pk_un n4]; exact h.2.2.2.2.2⟩
theorem kb_one {x : Int32} (b : kb 1 x 1) : x = 1 := Int32.toInt_inj.mp (by rw [kb_c b]; decide +kernel)
theorem kb_zero {x : Int32} (b : kb 0 x 0) : x = 0 := Int32.toInt_inj.mp (by rw [kb_c b]; decide +kernel)
theorem mLay_in {B a' a'' : Nat → Nat → Int32} {k0 cd vl : Nat → Int32} {t k : Nat} {tok v1 v2 i1 i2 : Int32} {y : Int32} (ht : t ≤ 6) (hk : k < 400) (hB : B 2 = mLay k0 cd vl t k tok) (e1 : va_up B 2 (upd (B 2) i1.toNatClampNeg v1) = a') (e2 : va_up a' 2 (upd (a' 2) i2.toNatClampNeg v2) = a'') (h1 : i1.toInt = 114 + 400 * (t : Int) + (k : Int)) (h2 : i2.toInt = 2914 + 400 * (t : Int) + (k : Int)) (hy : y.toInt = (k : Int)) (q1 : v1 = B 15 y.toNatClampNeg) (q2 : v2 = a' 16 y.toNatClampNeg) (c1 : B 15 = cd) (c2 : B 16 = vl) : a'' 2 = mLay k0 cd vl t (k + 1) tok := by
  have x2 : a'' 2 = upd (a' 2) i2.toNatClampNeg v2 := by rw [← e2]; rfl
  have x1 : a' 2 = upd (B 2) i1.toNatClampNeg v1 := by rw [← e1]; rfl
  have x3 : a' 16 = B 16 := by rw [← e1]; rfl
  have n1 : i1.toNatClampNeg = 114 + 400 * t + k := by unfold Int32.toNatClampNeg; omega
  have n2 : i2.toNatClampNeg = 2914 + 400 * t + k := by unfold Int32.toNatClampNeg; omega
  have n3 : y.toNatClampNeg = k := by unfold Int32.toNatClampNeg; omega
  rw [x2, x1, hB, n1, n2, q1, q2, x3, c1, c2, n3]
  exact mLay_s ht hk
theorem dX12_reads_0 : decode cX12_reads 0 = .ok (.aload_n 0, 1) := by decide +kernel
theorem dX12_reads_1 : decode cX12_reads 1 = .ok (.aload_n 0, 1) := by decide +kernel
theorem dX12_reads_2 : decode cX12_reads 2 = .ok (.getfield 138, 3) := by decide +kernel
theorem dX12_reads_5 : decode cX12_reads 5 = .ok (.invokevirtual 226, 3) := by decide +kernel
theorem dX12_reads_8 : decode cX12_reads 8 = .ok (.aload_n 0, 1) := by decide +kernel
theorem dX12_reads_9 : decode cX12_reads 9 = .ok (.iconst 0, 1) := by decide +kernel
theorem dX12_reads_10 : decode cX12_reads 10 = .ok (.putfield 138, 3) := by decide +kernel
theorem dX12_reads_13 : decode cX12_reads 13 = .ok (.aload_n 0, 1) := by decide +kernel
theorem dX12_reads_14 : decode cX12_reads 14 = .ok (.iconst 0, 1) := by decide +kernel
theorem dX12_reads_15 : decode cX12_reads 15 = .ok (.putfield 165, 3) := by decide +kernel
theorem dX12_reads_18 : decode cX12_reads 18 = .ok (.aload_n 0, 1) := by decide +kernel
theorem dX12_reads_19 : decode cX12_reads 19 = .ok (.iconst 0, 1) := by decide +kernel
theorem dX12_reads_20 : decode cX12_reads 20 = .ok (.putfield 174, 3) := by decide +kernel
theorem dX12_reads_23 : decode cX12_reads 23 = .ok (.aload_n 0, 1) := by decide +kernel
theorem dX12_reads_24 : decode cX12_reads 24 = .ok (.iconst (-1), 1) := by decide +kernel
theorem dX12_reads_25 : decode cX12_reads 25 = .ok (.putfield 158, 3) := by decide +kernel
theorem dX12_reads_28 : decode cX12_reads 28 = .ok (.aload_n 0, 1) := by decide +kernel
theorem dX12_reads_29 : decode cX12_reads 29 = .ok (.invokevirtual 229, 3) := by decide +kernel
theorem dX12_reads_32 : decode cX12_reads 32 = .ok (.iconst 1, 1) := by decide +kernel
theorem dX12_reads_33 : decode cX12_reads 33 = .ok (.istore_n 1, 1) := by decide +kernel
theorem dX12_reads_34 : decode cX12_reads 34 = .ok (.aload_n 0, 1) := by decide +kernel
theorem dX12_reads_35 : decode cX12_reads 35 = .ok (.bipush 59, 2) := by decide +kernel
theorem dX12_reads_37 : decode cX12_reads 37 = .ok (.invokestatic 207, 3) := by decide +kernel
theorem dX12_reads_40 : decode cX12_reads 40 = .ok (.invokevirtual 168, 3) := by decide +kernel
theorem dX12_reads_43 : decode cX12_reads 43 = .ok (.ifCond .eq 30, 3) := by decide +kernel
theorem dX12_reads_46 : decode cX12_reads 46 = .ok (.iload_n 1, 1) := by decide +kernel
theorem dX12_reads_47 : decode cX12_reads 47 = .ok (.bipush 12, 2) := by decide +kernel
theorem dX12_reads_49 : decode cX12_reads 49 = .ok (.if_icmp .ne 7, 3) := by decide +kernel
theorem dX12_reads_52 : decode cX12_reads 52 = .ok (.aload_n 0, 1) := by decide +kernel
theorem dX12_reads_53 : decode cX12_reads 53 = .ok (.invokevirtual 171, 3) := by decide +kernel
theorem dX12_reads_56 : decode cX12_reads 56 = .ok (.aload_n 0, 1) := by decide +kernel
theorem dX12_reads_57 : decode cX12_reads 57 = .ok (.invokevirtual 161, 3) := by decide +kernel
theorem dX12_reads_60 : decode cX12_reads 60 = .ok (.ifCond .eq 7, 3) := by decide +kernel
theorem dX12_reads_63 : decode cX12_reads 63 = .ok (.aload_n 0, 1) := by decide +kernel
theorem dX12_reads_64 : decode cX12_reads 64 = .ok (.invokevirtual 229, 3) := by decide +kernel
theorem dX12_reads_67 : decode cX12_reads 67 = .ok (.iinc 1 1, 3) := by decide +kernel
theorem dX12_reads_70 : decode cX12_reads 70 = .ok (.goto (-36), 3) := by decide +kernel
theorem dX12_reads_73 : decode cX12_reads 73 = .ok (.aload_n 0, 1) := by decide +kernel
theorem dX12_reads_74 : decode cX12_reads 74 = .ok (.invokevirtual 161, 3) := by decide +kernel
theorem dX12_reads_77 : decode cX12_reads 77 = .ok (.ifCond .eq 18, 3) := by decide +kernel
theorem dX12_reads_80 : decode cX12_reads 80 = .ok (.aload_n 0, 1) := by decide +kernel
theorem dX12_reads_81 : decode cX12_reads 81 = .ok (.getfield 165, 3) := by decide +kernel
theorem dX12_reads_84 : decode cX12_reads 84 = .ok (.aload_n 0, 1) := by decide +kernel
theorem dX12_reads_85 : decode cX12_reads 85 = .ok (.getfield 144, 3) := by decide +kernel
theorem dX12_reads_88 : decode cX12_reads 88 = .ok (.if_icmp .ge 7, 3) := by decide +kernel
theorem dX12_reads_91 : decode cX12_reads 91 = .ok (.aload_n 0, 1) := by decide +kernel
theorem dX12_reads_92 : decode cX12_reads 92 = .ok (.invokevirtual 171, 3) := by decide +kernel
theorem dX12_reads_95 : decode cX12_reads 95 = .ok (.aload_n 0, 1) := by decide +kernel
theorem dX12_reads_96 : decode cX12_reads 96 = .ok (.aload_n 0, 1) := by decide +kernel
theorem dX12_reads_97 : decode cX12_reads 97 = .ok (.getfield 158, 3) := by decide +kernel
theorem dX12_reads_100 : decode cX12_reads 100 = .ok (.putfield 47, 3) := by decide +kernel
theorem dX12_reads_103 : decode cX12_reads 103 = .ok (.aload_n 0, 1) := by decide +kernel
theorem dX12_reads_104 : decode cX12_reads 104 = .ok (.invokevirtual 161, 3) := by decide +kernel
theorem dX12_reads_107 : decode cX12_reads 107 = .ok (.ireturn, 1) := by decide +kernel
theorem dX12_readsAs_0 : decode cX12_readsAs 0 = .ok (.aload_n 0, 1) := by decide +kernel
theorem dX12_readsAs_1 : decode cX12_readsAs 1 = .ok (.iload_n 1, 1) := by decide +kernel
theorem dX12_readsAs_2 : decode cX12_readsAs 2 = .ok (.putfield 191, 3) := by decide +kernel
theorem dX12_readsAs_5 : decode cX12_readsAs 5 = .ok (.aload_n 0, 1) := by decide +kernel
theorem dX12_readsAs_6 : decode cX12_readsAs 6 = .ok (.iload_n 1, 1) := by decide +kernel
theorem dX12_readsAs_7 : decode cX12_readsAs 7 = .ok (.ifCond .eq 8, 3) := by decide +kernel
theorem dX12_readsAs_10 : decode cX12_readsAs 10 = .ok (.bipush 16, 2) := by decide +kernel
theorem dX12_readsAs_12 : decode cX12_readsAs 12 = .ok (.goto 5, 3) := by decide +kernel
theorem dX12_readsAs_15 : decode cX12_readsAs 15 = .ok (.bipush 9, 2) := by decide +kernel
theorem dX12_readsAs_17 : decode cX12_readsAs 17 = .ok (.putfield 217, 3) := by decide +kernel
theorem dX12_readsAs_20 : decode cX12_readsAs 20 = .ok (.aload_n 0, 1) := by decide +kernel
theorem dX12_readsAs_21 : decode cX12_readsAs 21 = .ok (.iload_n 1, 1) := by decide +kernel
theorem dX12_readsAs_22 : decode cX12_readsAs 22 = .ok (.ifCond .eq 8, 3) := by decide +kernel
theorem dX12_readsAs_25 : decode cX12_readsAs 25 = .ok (.bipush 22, 2) := by decide +kernel
theorem dX12_readsAs_27 : decode cX12_readsAs 27 = .ok (.goto 5, 3) := by decide +kernel
theorem dX12_readsAs_30 : decode cX12_readsAs 30 = .ok (.bipush 18, 2) := by decide +kernel
theorem dX12_readsAs_32 : decode cX12_readsAs 32 = .ok (.putfield 220, 3) := by decide +kernel
theorem dX12_readsAs_35 : decode cX12_readsAs 35 = .ok (.aload_n 0, 1) := by decide +kernel
theorem dX12_readsAs_36 : decode cX12_readsAs 36 = .ok (.invokevirtual 232, 3) := by decide +kernel
theorem dX12_readsAs_39 : decode cX12_readsAs 39 = .ok (.ireturn, 1) := by decide +kernel
theorem dX12_lays_0 : decode cX12_lays 0 = .ok (.aload_n 0, 1) := by decide +kernel
theorem dX12_lays_1 : decode cX12_lays 1 = .ok (.getfield 24, 3) := by decide +kernel
theorem dX12_lays_4 : decode cX12_lays 4 = .ok (.bipush 107, 2) := by decide +kernel
theorem dX12_lays_6 : decode cX12_lays 6 = .ok (.iload_n 1, 1) := by decide +kernel
theorem dX12_lays_7 : decode cX12_lays 7 = .ok (.iadd, 1) := by decide +kernel
theorem dX12_lays_8 : decode cX12_lays 8 = .ok (.aload_n 0, 1) := by decide +kernel
theorem dX12_lays_9 : decode cX12_lays 9 = .ok (.getfield 144, 3) := by decide +kernel
theorem dX12_lays_12 : decode cX12_lays 12 = .ok (.iastore, 1) := by decide +kernel
theorem dX12_lays_13 : decode cX12_lays 13 = .ok (.iconst 0, 1) := by decide +kernel
theorem dX12_lays_14 : decode cX12_lays 14 = .ok (.istore_n 2, 1) := by decide +kernel
theorem dX12_lays_15 : decode cX12_lays 15 = .ok (.iload_n 2, 1) := by decide +kernel
theorem dX12_lays_16 : decode cX12_lays 16 = .ok (.aload_n 0, 1) := by decide +kernel
theorem dX12_lays_17 : decode cX12_lays 17 = .ok (.getfield 144, 3) := by decide +kernel
theorem dX12_lays_20 : decode cX12_lays 20 = .ok (.if_icmp .ge 52, 3) := by decide +kernel
theorem dX12_lays_23 : decode cX12_lays 23 = .ok (.aload_n 0, 1) := by decide +kernel
theorem dX12_lays_24 : decode cX12_lays 24 = .ok (.getfield 24, 3) := by decide +kernel
theorem dX12_lays_27 : decode cX12_lays 27 = .ok (.bipush 114, 2) := by decide +kernel
theorem dX12_lays_29 : decode cX12_lays 29 = .ok (.sipush 400, 3) := by decide +kernel
theorem dX12_lays_32 : decode cX12_lays 32 = .ok (.iload_n 1, 1) := by decide +kernel
theorem dX12_lays_33 : decode cX12_lays 33 = .ok (.imul, 1) := by decide +kernel
theorem dX12_lays_34 : decode cX12_lays 34 = .ok (.iadd, 1) := by decide +kernel
theorem dX12_lays_35 : decode cX12_lays 35 = .ok (.iload_n 2, 1) := by decide +kernel
theorem dX12_lays_36 : decode cX12_lays 36 = .ok (.iadd, 1) := by decide +kernel
theorem dX12_lays_37 : decode cX12_lays 37 = .ok (.aload_n 0, 1) := by decide +kernel
theorem dX12_lays_38 : decode cX12_lays 38 = .ok (.getfield 50, 3) := by decide +kernel
theorem dX12_lays_41 : decode cX12_lays 41 = .ok (.iload_n 2, 1) := by decide +kernel
theorem dX12_lays_42 : decode cX12_lays 42 = .ok (.iaload, 1) := by decide +kernel
theorem dX12_lays_43 : decode cX12_lays 43 = .ok (.iastore, 1) := by decide +kernel
theorem dX12_lays_44 : decode cX12_lays 44 = .ok (.aload_n 0, 1) := by decide +kernel
theorem dX12_lays_45 : decode cX12_lays 45 = .ok (.getfield 24, 3) := by decide +kernel
theorem dX12_lays_48 : decode cX12_lays 48 = .ok (.sipush 2914, 3) := by decide +kernel
theorem dX12_lays_51 : decode cX12_lays 51 = .ok (.sipush 400, 3) := by decide +kernel
theorem dX12_lays_54 : decode cX12_lays 54 = .ok (.iload_n 1, 1) := by decide +kernel
theorem dX12_lays_55 : decode cX12_lays 55 = .ok (.imul, 1) := by decide +kernel
theorem dX12_lays_56 : decode cX12_lays 56 = .ok (.iadd, 1) := by decide +kernel
theorem dX12_lays_57 : decode cX12_lays 57 = .ok (.iload_n 2, 1) := by decide +kernel
theorem dX12_lays_58 : decode cX12_lays 58 = .ok (.iadd, 1) := by decide +kernel
theorem dX12_lays_59 : decode cX12_lays 59 = .ok (.aload_n 0, 1) := by decide +kernel
theorem dX12_lays_60 : decode cX12_lays 60 = .ok (.getfield 53, 3) := by decide +kernel
theorem dX12_lays_63 : decode cX12_lays 63 = .ok (.iload_n 2, 1) := by decide +kernel
theorem dX12_lays_64 : decode cX12_lays 64 = .ok (.iaload, 1) := by decide +kernel
theorem dX12_lays_65 : decode cX12_lays 65 = .ok (.iastore, 1) := by decide +kernel
theorem dX12_lays_66 : decode cX12_lays 66 = .ok (.iinc 2 1, 3) := by decide +kernel
theorem dX12_lays_69 : decode cX12_lays 69 = .ok (.goto (-54), 3) := by decide +kernel
theorem dX12_lays_72 : decode cX12_lays 72 = .ok (.return_, 1) := by decide +kernel
theorem dX12_law_0 : decode cX12_law 0 = .ok (.aload_n 0, 1) := by decide +kernel
theorem dX12_law_1 : decode cX12_law 1 = .ok (.getfield 24, 3) := by decide +kernel
theorem dX12_law_4 : decode cX12_law 4 = .ok (.bipush 105, 2) := by decide +kernel
theorem dX12_law_6 : decode cX12_law 6 = .ok (.iaload, 1) := by decide +kernel
theorem dX12_law_7 : decode cX12_law 7 = .ok (.bipush 6, 2) := by decide +kernel
theorem dX12_law_9 : decode cX12_law 9 = .ok (.if_icmp .ne 15, 3) := by decide +kernel
theorem dX12_law_12 : decode cX12_law 12 = .ok (.aload_n 0, 1) := by decide +kernel
theorem dX12_law_13 : decode cX12_law 13 = .ok (.iconst 0, 1) := by decide +kernel
theorem dX12_law_14 : decode cX12_law 14 = .ok (.putfield 138, 3) := by decide +kernel
theorem dX12_law_17 : decode cX12_law 17 = .ok (.aload_n 0, 1) := by decide +kernel
theorem dX12_law_18 : decode cX12_law 18 = .ok (.bipush (-5), 2) := by decide +kernel
theorem dX12_law_20 : decode cX12_law 20 = .ok (.invokevirtual 100, 3) := by decide +kernel
theorem dX12_law_23 : decode cX12_law 23 = .ok (.ireturn, 1) := by decide +kernel
theorem dX12_law_24 : decode cX12_law 24 = .ok (.aload_n 0, 1) := by decide +kernel
theorem dX12_law_25 : decode cX12_law 25 = .ok (.iconst 0, 1) := by decide +kernel
theorem dX12_law_26 : decode cX12_law 26 = .ok (.invokevirtual 235, 3) := by decide +kernel
theorem dX12_law_29 : decode cX12_law 29 = .ok (.ifCond .ne 10, 3) := by decide +kernel
theorem dX12_law_32 : decode cX12_law 32 = .ok (.aload_n 0, 1) := by decide +kernel
theorem dX12_law_33 : decode cX12_law 33 = .ok (.bipush (-6), 2) := by decide +kernel
theorem dX12_law_35 : decode cX12_law 35 = .ok (.invokevirtual 100, 3) := by decide +kernel
theorem dX12_law_38 : decode cX12_law 38 = .ok (.ireturn, 1) := by decide +kernel
theorem dX12_law_39 : decode cX12_law 39 = .ok (.aload_n 0, 1) := by decide +kernel
theorem dX12_law_40 : decode cX12_law 40 = .ok (.aload_n 0, 1) := by decide +kernel
theorem dX12_law_41 : decode cX12_law 41 = .ok (.getfield 24, 3) := by decide +kernel
theorem dX12_law_44 : decode cX12_law 44 = .ok (.bipush 105, 2) := by decide +kernel
theorem dX12_law_46 : decode cX12_law 46 = .ok (.iaload, 1) := by decide +kernel
theorem dX12_law_47 : decode cX12_law 47 = .ok (.invokevirtual 239, 3) := by decide +kernel
theorem dX12_law_50 : decode cX12_law 50 = .ok (.aload_n 0, 1) := by decide +kernel
theorem dX12_law_51 : decode cX12_law 51 = .ok (.getfield 24, 3) := by decide +kernel
theorem dX12_law_54 : decode cX12_law 54 = .ok (.bipush 105, 2) := by decide +kernel
theorem dX12_law_56 : decode cX12_law 56 = .ok (.dup2, 1) := by decide +kernel
theorem dX12_law_57 : decode cX12_law 57 = .ok (.iaload, 1) := by decide +kernel
theorem dX12_law_58 : decode cX12_law 58 = .ok (.iconst 1, 1) := by decide +kernel
theorem dX12_law_59 : decode cX12_law 59 = .ok (.iadd, 1) := by decide +kernel
theorem dX12_law_60 : decode cX12_law 60 = .ok (.iastore, 1) := by decide +kernel
theorem dX12_law_61 : decode cX12_law 61 = .ok (.aload_n 0, 1) := by decide +kernel
theorem dX12_law_62 : decode cX12_law 62 = .ok (.aload_n 0, 1) := by decide +kernel
theorem dX12_law_63 : decode cX12_law 63 = .ok (.getfield 24, 3) := by decide +kernel
theorem dX12_law_66 : decode cX12_law 66 = .ok (.bipush 105, 2) := by decide +kernel
theorem dX12_law_68 : decode cX12_law 68 = .ok (.iaload, 1) := by decide +kernel
theorem dX12_law_69 : decode cX12_law 69 = .ok (.iconst 1, 1) := by decide +kernel
theorem dX12_law_70 : decode cX12_law 70 = .ok (.isub, 1) := by decide +kernel
theorem dX12_law_71 : decode cX12_law 71 = .ok (.invokevirtual 14, 3) := by decide +kernel
theorem dX12_law_74 : decode cX12_law 74 = .ok (.ireturn, 1) := by decide +kernel
theorem wt6_177 : Cond.methodLink RX12 226 yX12_splits ∈ kG := kt6 177 rfl rfl
theorem wt6_179 : Cond.instanceMethod yX12_splits ∈ kG := kt6 179 rfl rfl
theorem wp4_2 : Cond.selects RX12 yX12_splits yX12_splits ∈ kG := kp4 2 rfl rfl
theorem wt6_180 : Cond.code yX12_splits cX12_splits 6 none ∈ kG := kt6 180 rfl rfl
theorem wt6_192 : Cond.methodLink RX12 229 yX12_readOne ∈ kG := kt6 192 rfl rfl
theorem wt6_194 : Cond.instanceMethod yX12_readOne ∈ kG := kt6 194 rfl rfl
theorem wp4_4 : Cond.selects RX12 yX12_readOne yX12_readOne ∈ kG := kp4 4 rfl rfl
theorem wt6_195 : Cond.code yX12_readOne cX12_readOne 1 none ∈ kG := kt6 195 rfl rfl
theorem wt6_173 : Cond.methodLink RX12 232 yX12_reads ∈ kG := kt6 173 rfl rfl
theorem wt6_175 : Cond.instanceMethod yX12_reads ∈ kG := kt6 175 rfl rfl
theorem wp4_1 : Cond.selects RX12 yX12_reads yX12_reads ∈ kG := kp4 1 rfl rfl
theorem wt6_176 : Cond.code yX12_reads cX12_reads 2 (some .boolean) ∈ kG := kt6 176 rfl rfl
theorem wt6_169 : Cond.methodLink RX12 235 yX12_readsAs ∈ kG := kt6 169 rfl rfl
theorem wt6_171 : Cond.instanceMethod yX12_readsAs ∈ kG := kt6 171 rfl rfl
theorem wp4_0 : Cond.selects RX12 yX12_readsAs yX12_readsAs ∈ kG := kp4 0 rfl rfl
theorem wt6_172 : Cond.code yX12_readsAs cX12_readsAs 2 (some .boolean) ∈ kG := kt6 172 rfl rfl
theorem wt7_15 : Cond.methodLink RX12 239 yX12_lays ∈ kG := kt7 15 rfl rfl
theorem wt7_17 : Cond.instanceMethod yX12_lays ∈ kG := kt7 17 rfl rfl
theorem wp5_3 : Cond.selects RX12 yX12_lays yX12_lays ∈ kG := kp5 3 rfl rfl
theorem wt7_18 : Cond.code yX12_lays cX12_lays 3 none ∈ kG := kt7 18 rfl rfl
theorem kc_159 : kb 159 159 159 := ⟨by decide +kernel, by decide +kernel⟩
theorem kc_59 : kb 59 59 59 := ⟨by decide +kernel, by decide +kernel⟩
set_option maxHeartbeats 4000000 in
set_option maxRecDepth 100000 in
theorem m_lays  (l : Launch) {D : va_G} {K : Nat → ClassId} (o : Nat) (r : Nat → Nat) (f : Nat → Int32) (a : Nat → Nat → Int32) (g : Nat → Int64) (hI : mI f a) (x : Int32) (bx : kb 0 x 6) (N : Nat) (hp0 : True) (hp1 : (f 18).toInt = (N : Int)) (hp2 : N ≤ 400) (hp3 : x.toInt < 6 → gG false (rC (a 15) N) 8 15 0 N) : kV l yX12_lays (Cond.code yX12_lays cX12_lays 3 none :: kG) (rmD 1 0 0) D (tysK K) [.ref o, .int x] (mW K o r f a g) (fun (u : mS) => mI u.1 u.2.1 ∧ mE (XR [(107, 6000)]) f a u.1 u.2.1 ∧ (∃ t : Nat, (t : Int) = x.toInt ∧ t ≤ 6 ∧ u.2.1 2 = mLay (a 2) (a 15) (a 16) t N (f 18)) ∧ u.1 = f) (fun u => mW K o r u.1 u.2.1 u.2.2) 0 0 := by
  refine kV.of (cc := cX12_lays) (maxL := 3) (ret := none) (by decide) rfl (Nat.le_of_ble_eq_true rfl) ?_
  intro p e s m below meth c A hx hb hr hml hown hts hlocks hnm hK hP hD hS hA ls hl
  have hE : mE (XR [(107, 6000)]) f a f a := mE_rf
  have hg : ∀ w ∈ kG, w.before _ s = true := fun w h => hts w (List.mem_cons_of_mem _ h)
  have hown : s.vm.findClass RX12 = some m.cls := hown
  have hl : lv_has ls 3 [(0, .ref o), (1, .int x)] := hl
  have hI0 := hI
  have hI : mJ f a := mJ_of hI
  obtain ⟨t, ht⟩ : ∃ t : Nat, (t : Int) = x.toInt := ⟨x.toInt.toNat, by have w1 := bx.1; omega⟩
  have ht6 : t ≤ 6 := by have w1 := bx.2; omega
  obtain ⟨tok, etok⟩ : ∃ z : Int32, z = f 18 := ⟨_, rfl⟩
  have htok : tok.toInt = (N : Int) := by rw [etok]; exact hp1
  have b1 : kb 0 tok 400 := ⟨by omega, by have w1 := hp2; omega⟩
  refine lv_aload_n hx hb dX12_lays_0 rfl (lv_at hl 0 rfl) ?_
  refine va_get (D := D) (ci := 12) (v := .ref (r 2)) (C := RX12) (T := TX12) (N := 48) hx hb hg inC12 hown hK hP 0 rfl rfl 2 (by decide) (hg _ wt5_162) (fun _ h9 => h9) rfl dX12_lays_1 ?_
  refine lv_bipush (v := 107) hx hb dX12_lays_4 (by decide) ?_
  refine lv_iload_n hx hb dX12_lays_6 rfl (lv_at hl 1 rfl) ?_
  refine lv_iadd hx hb dX12_lays_7 ?_
  refine lv_topi (fun t2 et2 => ?_)
  have b3 : kb 107 t2 113 := kb_eq et2 (kb_add kc_107 bx (by decide) (by decide))
  have qt2 : t2.toInt = 107 + x.toInt := by rw [et2]; exact kt_cadd kc_107 bx (by decide) (by decide)
  refine lv_aload_n hx hb dX12_lays_8 rfl (lv_at hl 0 rfl) ?_
  refine va_get (D := D) (ci := 12) (v := .int (f 18)) (C := RX12) (T := TX12) (N := 48) hx hb hg inC12 hown hK hP 0 rfl rfl 18 (by decide) (hg _ wt5_178) (fun _ h9 => h9) rfl dX12_lays_9 ?_
  refine k_top (z := tok) etok.symm ?_
  refine va_iast hx hb hK hP hD hS 2 0 rfl rfl (kb_in b3 (by decide) (by decide)) dX12_lays_12 (fun H locs hP hD hS => ?_)
  have hP : va_P D vwCl (mW K o r f (va_up a 2 (upd (a 2) t2.toNatClampNeg tok)) g) H := hP
  have hD : va_D A (mW K o r f (va_up a 2 (upd (a 2) t2.toNatClampNeg tok)) g) := hD
  refine k_gen (P := fun z => va_P D vwCl (mW K o r f z g) H ∧ va_D A (mW K o r f z g) ∧ (mJ f z) ∧ (mE (XR [(107, 6000)]) f a f z)) (va_up a 2 (upd (a 2) t2.toNatClampNeg tok)) ⟨hP, hD, (mJ_s hI (aI_sx hI.2.1 2 107 7 b3 (by decide) (by decide) b1 (by decide +kernel)) (by decide)), (mE_2 hE (bX_at 107 7 b3 (by decide) (by decide) (by decide)))⟩ (fun a_4 ea_4 hq => ?_)
  obtain ⟨hP, hD, hI, hE⟩ := hq
  refine lv_iconst (v := 0) hx hb dX12_lays_13 (by decide) ?_
  refine lv_istore_n (lv' := [(2, .int 0), (0, .ref o), (1, .int x)]) hx hb dX12_lays_14 rfl hl (by decide) rfl (fun ls hl => ?_)
  have lp7 : ∀ (n8 : Nat) (k : Nat) (B6 : Nat → Nat → Int32) (H : Heap) (locs : List Loc) (ls : Array Slot) (y5 : Int32), ((N : Int) < (k : Int) + (n8 : Int)) → (mJ f B6) → (mE (XR [(107, 6000)]) f a f B6) → (kb 0 y5 400) → (B6 2 = mLay (a 2) (a 15) (a 16) t k tok) → (B6 15 = a 15 ∧ B6 16 = a 16) → (y5.toInt = (k : Int)) → (k ≤ N) → va_P D vwCl (mW K o r f B6 g) H → va_D A (mW K o r f B6 g) → va_S A s.heap H locs → lv_has ls 3 [(2, .int y5), (0, .ref o), (1, .int x)] → W p l e (rmD 1 0 0) s m ([.ref o, .int x] : List Value).toArray below meth c H locs 0 0 (kQv D (tysK K) (fun (u : mS) => mI u.1 u.2.1 ∧ mE (XR [(107, 6000)]) f a u.1 u.2.1 ∧ (∃ t : Nat, (t : Int) = x.toInt ∧ t ≤ 6 ∧ u.2.1 2 = mLay (a 2) (a 15) (a 16) t N (f 18)) ∧ u.1 = f) (fun u => mW K o r u.1 u.2.1 u.2.2) A below ([.ref o, .int x] : List Value).toArray s 0 0) (F0 m 15 ls []) := by
    intro n8
    induction n8 with
    | zero =>
      intro k B6  H locs ls y5 hmlp7 hI hE b9 hvlp7_0 hvlp7_1 hvlp7_2 hvlp7_3 hP hD hS hl
      exact (by have w1 := hmlp7; have w2 := hvlp7_3; omega : False).elim
    | succ n8 ihlp7 =>
      intro k B6  H locs ls y5 hmlp7 hI hE b9 hvlp7_0 hvlp7_1 hvlp7_2 hvlp7_3 hP hD hS hl
      refine lv_iload_n hx hb dX12_lays_15 rfl (lv_at hl 0 rfl) ?_
      refine lv_aload_n hx hb dX12_lays_16 rfl (lv_at hl 1 rfl) ?_
      refine va_get (D := D) (ci := 12) (v := .int (f 18)) (C := RX12) (T := TX12) (N := 48) hx hb hg inC12 hown hK hP 0 rfl rfl 18 (by decide) (hg _ wt5_178) (fun _ h9 => h9) rfl dX12_lays_17 ?_
      refine k_top (z := tok) etok.symm ?_
      refine lv_icmp_ge (tgt := 72) hx hb dX12_lays_20 (by decide) (fun c10 => ?_) (fun c10 => ?_)
      · have h11 := (kc_le c10)
        exact kV_ret hx hb hr hlocks hK hS dX12_lays_72 (f, B6, g) hP hD ⟨(by have hkN : k = N := (by have w1 := hvlp7_2; have w2 := hvlp7_3; omega); have hB := hvlp7_0; rw [hkN] at hB; exact ⟨hI.1, hI.2.1, by show mT (B6 2); rw [hB]; exact mT_lay ht6 hp2 htok (szB hI0.2.1) hI0.2.2.1 (fun q => hp3 (by omega)), hI.2.2.1, hI.2.2.2⟩), hE, ⟨t, ht, ht6, by have hkN : k = N := (by have w1 := hvlp7_2; have w2 := hvlp7_3; omega); have hB := hvlp7_0; rw [hkN, etok] at hB; exact hB⟩, rfl⟩
      · have h12 := (kc_nle c10)
        have b13 : kb 0 y5 399 := kr_lt1 h12 b9 b1 (by decide)
        have b14 : kb 1 tok 400 := kr_lt2 h12 b9 b1 (by decide)
        have hkN : y5.toInt < tok.toInt := by omega
        have b15 : kb 0 y5 399 := ⟨(b13).1, by have w1 := hp2; omega⟩
        refine lv_aload_n hx hb dX12_lays_23 rfl (lv_at hl 1 rfl) ?_
        refine va_get (D := D) (ci := 12) (v := .ref (r 2)) (C := RX12) (T := TX12) (N := 48) hx hb hg inC12 hown hK hP 0 rfl rfl 2 (by decide) (hg _ wt5_162) (fun _ h9 => h9) rfl dX12_lays_24 ?_
        refine lv_bipush (v := 114) hx hb dX12_lays_27 (by decide) ?_
        refine lv_sipush (v := 400) hx hb dX12_lays_29 (by decide) ?_
        refine lv_iload_n hx hb dX12_lays_32 rfl (lv_at hl 2 rfl) ?_
        refine lv_imul hx hb dX12_lays_33 ?_
        refine lv_topi (fun t16 et16 => ?_)
        have b17 : kb 0 t16 2400 := kb_eq et16 (kb_mul kc_400 bx (by decide) (by decide) (by decide))
        have qt16 : t16.toInt = 400 * x.toInt := by rw [et16]; exact kt_cmul kc_400 bx (by decide) (by decide) (by decide)
        refine lv_iadd hx hb dX12_lays_34 ?_
        refine lv_topi (fun t18 et18 => ?_)
        have b19 : kb 114 t18 2514 := kb_eq et18 (kb_add kc_114 b17 (by decide) (by decide))
        have qt18 : t18.toInt = 114 + t16.toInt := by rw [et18]; exact kt_cadd kc_114 b17 (by decide) (by decide)
        refine lv_iload_n hx hb dX12_lays_35 rfl (lv_at hl 0 rfl) ?_
        refine lv_iadd hx hb dX12_lays_36 ?_
        refine lv_topi (fun t20 et20 => ?_)
        have b21 : kb 114 t20 2913 := kb_eq et20 (kb_add b19 b15 (by decide) (by decide))
        have qt20 : t20.toInt = t18.toInt + y5.toInt := by rw [et20]; exact kt_add b19 b15 (by decide) (by decide)
        refine lv_aload_n hx hb dX12_lays_37 rfl (lv_at hl 1 rfl) ?_
        refine va_get (D := D) (ci := 12) (v := .ref (r 15)) (C := RX12) (T := TX12) (N := 48) hx hb hg inC12 hown hK hP 0 rfl rfl 15 (by decide) (hg _ wt5_175) (fun _ h9 => h9) rfl dX12_lays_38 ?_
        refine lv_iload_n hx hb dX12_lays_41 rfl (lv_at hl 0 rfl) ?_
        refine va_iald hx hb hK hP 9 0 rfl rfl (kb_in b15 (by decide) (by decide)) dX12_lays_42 ?_
        refine lv_topi (fun t22 et22 => ?_)
        refine va_iast hx hb hK hP hD hS 2 0 rfl rfl (kb_in b21 (by decide) (by decide)) dX12_lays_43 (fun H locs hP hD hS => ?_)
        have hP : va_P D vwCl (mW K o r f (va_up B6 2 (upd (B6 2) t20.toNatClampNeg t22)) g) H := hP
        have hD : va_D A (mW K o r f (va_up B6 2 (upd (B6 2) t20.toNatClampNeg t22)) g) := hD
        refine k_gen (P := fun z => va_P D vwCl (mW K o r f z g) H ∧ va_D A (mW K o r f z g) ∧ (mJ f z) ∧ (mE (XR [(107, 6000)]) f a f z)) (va_up B6 2 (upd (B6 2) t20.toNatClampNeg t22)) ⟨hP, hD, (mJ_s hI (aI_any hI.2.1 2 _ (kq_hi b21 (by decide))) (by decide)), (mE_2 hE (XR1 (A := 107) (B := 6000) b21 (by decide) (by decide) (by decide) (by decide)))⟩ (fun a_23 ea_23 hq => ?_)
        obtain ⟨hP, hD, hI, hE⟩ := hq
        refine lv_aload_n hx hb dX12_lays_44 rfl (lv_at hl 1 rfl) ?_
        refine va_get (D := D) (ci := 12) (v := .ref (r 2)) (C := RX12) (T := TX12) (N := 48) hx hb hg inC12 hown hK hP 0 rfl rfl 2 (by decide) (hg _ wt5_162) (fun _ h9 => h9) rfl dX12_lays_45 ?_
        refine lv_sipush (v := 2914) hx hb dX12_lays_48 (by decide) ?_
        refine lv_sipush (v := 400) hx hb dX12_lays_51 (by decide) ?_
        refine lv_iload_n hx hb dX12_lays_54 rfl (lv_at hl 2 rfl) ?_
        refine lv_imul hx hb dX12_lays_55 ?_
        refine k_top (z := t16) et16.symm ?_
        refine lv_iadd hx hb dX12_lays_56 ?_
        refine lv_topi (fun t24 et24 => ?_)
        have b25 : kb 2914 t24 5314 := kb_eq et24 (kb_add kc_2914 b17 (by decide) (by decide))
        have qt24 : t24.toInt = 2914 + t16.toInt := by rw [et24]; exact kt_cadd kc_2914 b17 (by decide) (by decide)
        refine lv_iload_n hx hb dX12_lays_57 rfl (lv_at hl 0 rfl) ?_
        refine lv_iadd hx hb dX12_lays_58 ?_
        refine lv_topi (fun t26 et26 => ?_)
        have b27 : kb 2914 t26 5713 := kb_eq et26 (kb_add b25 b15 (by decide) (by decide))
        have qt26 : t26.toInt = t24.toInt + y5.toInt := by rw [et26]; exact kt_add b25 b15 (by decide) (by decide)
        refine lv_aload_n hx hb dX12_lays_59 rfl (lv_at hl 1 rfl) ?_
        refine va_get (D := D) (ci := 12) (v := .ref (r 16)) (C := RX12) (T := TX12) (N := 48) hx hb hg inC12 hown hK hP 0 rfl rfl 16 (by decide) (hg _ wt5_176) (fun _ h9 => h9) rfl dX12_lays_60 ?_
        refine lv_iload_n hx hb dX12_lays_63 rfl (lv_at hl 0 rfl) ?_
        refine va_iald hx hb hK hP 10 0 rfl rfl (kb_in b15 (by decide) (by decide)) dX12_lays_64 ?_
        refine lv_topi (fun t28 et28 => ?_)
        refine va_iast hx hb hK hP hD hS 2 0 rfl rfl (kb_in b27 (by decide) (by decide)) dX12_lays_65 (fun H locs hP hD hS => ?_)
        have hP : va_P D vwCl (mW K o r f (va_up a_23 2 (upd (a_23 2) t26.toNatClampNeg t28)) g) H := hP
        have hD : va_D A (mW K o r f (va_up a_23 2 (upd (a_23 2) t26.toNatClampNeg t28)) g) := hD
        refine k_gen (P := fun z => va_P D vwCl (mW K o r f z g) H ∧ va_D A (mW K o r f z g) ∧ (mJ f z) ∧ (mE (XR [(107, 6000)]) f a f z)) (va_up a_23 2 (upd (a_23 2) t26.toNatClampNeg t28)) ⟨hP, hD, (mJ_s hI (aI_any hI.2.1 2 _ (kq_hi b27 (by decide))) (by decide)), (mE_2 hE (XR1 (A := 107) (B := 6000) b27 (by decide) (by decide) (by decide) (by decide)))⟩ (fun a_29 ea_29 hq => ?_)
        obtain ⟨hP, hD, hI, hE⟩ := hq
        obtain ⟨t30, et30⟩ : ∃ z : Int32, z = y5 + Int32.ofInt 1 := ⟨_, rfl⟩
        have qt30 : t30.toInt = y5.toInt + 1 := by rw [et30]; exact km_inc b15 (by decide) (by decide)
        have b31 : kb 1 t30 400 := kb_inc (k := 1) qt30 b15
        refine lv_iinc (v := t30) (lv' := [(2, .int t30), (0, .ref o), (1, .int x)]) hx hb dX12_lays_66 hl (k := 0) rfl et30.symm (by decide) rfl (fun ls hl => ?_)
        refine lv_goto (tgt := 15) hx hb dX12_lays_69 (by decide) ?_
        exact ihlp7 (k + 1) a_29 _ _ _ t30 (by omega) hI hE (kb_w b31 (by decide) (by decide)) (mLay_in ht6 (by omega) hvlp7_0 ea_23 ea_29 (by omega) (by omega) hvlp7_2 et22 et28 hvlp7_1.1 hvlp7_1.2) (⟨by rw [← ea_29]; show a_23 15 = _; rw [← ea_23]; exact hvlp7_1.1, by rw [← ea_29]; show a_23 16 = _; rw [← ea_23]; exact hvlp7_1.2⟩) (by omega) (by omega) hP hD hS (lv_sub hl [0, 1, 2] rfl)
  exact lp7 (N + 1) 0 a_4 _ _ _ 0 (by omega) hI hE (kb_w kc_0 (by decide) (by decide)) (by rw [← ea_4]; show upd (a 2) t2.toNatClampNeg tok = _; have w1 : t2.toNatClampNeg = 107 + t := (by have w2 := kb_cl b3 (by decide); omega); rw [w1]; exact mLay_0) (⟨by rw [← ea_4]; rfl, by rw [← ea_4]; rfl⟩) (by decide +kernel) (Nat.zero_le _) hP hD hS (lv_sub hl [0, 1, 2] rfl)
set_option maxHeartbeats 4000000 in
set_option maxRecDepth 100000 in
theorem m_reads  (l : Launch) {D : va_G} {K : Nat → ClassId} (o : Nat) (r : Nat → Nat) (f : Nat → Int32) (a : Nat → Nat → Int32) (g : Nat → Int64) (hI : mI f a)   (ob : Bool) (hp0 : f 10 = (if ob = true then 1 else 0)) (hp1 : f 8 = (if ob = true then 16 else 9)) (hp2 : f 9 = (if ob = true then 22 else 18)) : kI l yX12_reads (Cond.code yX12_reads cX12_reads 2 (some .boolean) :: kG) (rmD 50 0 0) D (tysK K) [.ref o] (mW K o r f a g) (fun v (u : mS) => kb 0 v 1 ∧ mI u.1 u.2.1 ∧ mF (XR []) f a u.1 u.2.1 ∧ u.1 13 = 0 ∧ (∃ N : Nat, (u.1 18).toInt = (N : Int) ∧ N ≤ 400 ∧ (v = 1 → gG ob (rC (u.2.1 15) N) 8 15 0 N)) ∧ u.2.1 11 = a 11 ∧ fE [13, 14, 18, 19, 20, 21] f u.1) (fun u => mW K o r u.1 u.2.1 u.2.2) 0 0 := by
  refine kI.of (cc := cX12_reads) (maxL := 2) (ret := (some .boolean)) (by decide) rfl (Nat.le_of_ble_eq_true rfl) ?_
  intro p e s m below meth c A hx hb hr hml hown hts hlocks hnm hK hP hD hS hA ls hl
  have hE : mF (XR []) f a f a := mF_rf
  have hg : ∀ w ∈ kG, w.before _ s = true := fun w h => hts w (List.mem_cons_of_mem _ h)
  have hown : s.vm.findClass RX12 = some m.cls := hown
  have hl : lv_has ls 2 [(0, .ref o)] := hl
  have hk0 : fE [13, 14, 18, 19, 20, 21] f f := fE_rf
  refine lv_aload_n hx hb dX12_reads_0 rfl (lv_at hl 0 rfl) ?_
  refine lv_aload_n hx hb dX12_reads_1 rfl (lv_at hl 0 rfl) ?_
  refine va_get (D := D) (ci := 12) (v := .int (f 13)) (C := RX12) (T := TX12) (N := 48) hx hb hg inC12 hown hK hP 0 rfl rfl 13 (by decide) (hg _ wt5_173) (fun _ h9 => h9) rfl dX12_reads_2 ?_
  refine lv_topi (fun t1 et1 => ?_)
  have b2 : kb 0 t1 400 := kb_eq et1 (fI_at hI.1 13 (by decide) (by decide))
  refine kV.callV (As := [.int t1]) (rest := []) ⟨hx, hb, hml, hown, hg⟩ (m_splits l o r f a g hI t1 b2 ) (cwV 1 hg (kgV wt6_177 wt6_179 wp4_2 wt1_14 wt6_180) rfl rfl rfl (by decide +kernel) ⟨by decide, by decide⟩) hK hP hD hS hA mIs [] rfl (wr := []) rfl rfl rfl (fun i h => by cases h) 0 12 rfl rfl rfl hl.1 rfl (Nat.le_of_ble_eq_true rfl) dX12_reads_5 ⟨Nat.le_refl _, Nat.le_refl _⟩ (fun u5 H locs hw3 hP hD hS => ?_)
  obtain ⟨f6, a7, g8⟩ := u5
  have hP : va_P D vwCl (mW K o r f6 a7 g8) H := hP
  have hD : va_D A (mW K o r f6 a7 g8) := hD
  have hI : mI f6 a7 := hw3.1
  have hE : mF (XR []) f a f6 a7 := mF_tr hE (mF_of hw3.2.1)
  have eE9 : mE (XR []) f a f6 a7 := hw3.2.1
  have hk0 : fE [13, 14, 18, 19, 20, 21] f f6 := fE_tr hk0 (fE_w (by decide) hw3.2.2.1)
  obtain ⟨N, hN1, hN2, hN3⟩ := hw3.2.2.2
  obtain ⟨tn, etn⟩ : ∃ z : Int32, z = f6 18 := ⟨_, rfl⟩
  have htn : tn.toInt = (N : Int) := by rw [etn]; exact hN1
  have h11 : a7 11 = a 11 := hw3.2.1.2.1
  refine lv_aload_n hx hb dX12_reads_8 rfl (lv_at hl 0 rfl) ?_
  refine lv_iconst (v := 0) hx hb dX12_reads_9 (by decide) ?_
  refine va_put (D := D) (ci := 12) (v := .int 0) (ty := .int) (C := RX12) (T := TX12) (N := 48) hx hb hg inC12 tyX12 tyX12_ok nmX12 hown hK hP hD hS 0 rfl rfl 13 (by decide) (hg _ wt5_173) (fun _ h9 => h9) rfl (by decide +kernel) rfl rfl (Nat.le_of_ble_eq_true rfl) dX12_reads_10 (fun H locs hP hD hS => ?_)
  have hP : va_P D vwCl (mW K o r (upd f6 13 0) a7 g8) H := hP
  have hD : va_D A (mW K o r (upd f6 13 0) a7 g8) := hD
  refine k_gen (P := fun z => va_P D vwCl (mW K o r z a7 g8) H ∧ va_D A (mW K o r z a7 g8) ∧ (mI z a7) ∧ (mF (XR []) f a z a7) ∧ (fE [13, 14, 18, 19, 20, 21] f z)) (upd f6 13 0) ⟨hP, hD, (mI_f hI (fI_st hI.1 13 kc_0 (by decide) (by decide))), (mF_f hE), (fE_f hk0 (by decide))⟩ (fun f_10 ef_10 hq => ?_)
  obtain ⟨hP, hD, hI, hE, hk0⟩ := hq
  refine lv_aload_n hx hb dX12_reads_13 rfl (lv_at hl 0 rfl) ?_
  refine lv_iconst (v := 0) hx hb dX12_reads_14 (by decide) ?_
  refine va_put (D := D) (ci := 12) (v := .int 0) (ty := .int) (C := RX12) (T := TX12) (N := 48) hx hb hg inC12 tyX12 tyX12_ok nmX12 hown hK hP hD hS 0 rfl rfl 19 (by decide) (hg _ wt5_179) (fun _ h9 => h9) rfl (by decide +kernel) rfl rfl (Nat.le_of_ble_eq_true rfl) dX12_reads_15 (fun H locs hP hD hS => ?_)
  have hP : va_P D vwCl (mW K o r (upd f_10 19 0) a7 g8) H := hP
  have hD : va_D A (mW K o r (upd f_10 19 0) a7 g8) := hD
  refine k_gen (P := fun z => va_P D vwCl (mW K o r z a7 g8) H ∧ va_D A (mW K o r z a7 g8) ∧ (mI z a7) ∧ (mF (XR []) f a z a7) ∧ (fE [13, 14, 18, 19, 20, 21] f z)) (upd f_10 19 0) ⟨hP, hD, (mI_f hI (fI_st hI.1 19 kc_0 (by decide) (by decide))), (mF_f hE), (fE_f hk0 (by decide))⟩ (fun f_11 ef_11 hq => ?_)
  obtain ⟨hP, hD, hI, hE, hk0⟩ := hq
  refine lv_aload_n hx hb dX12_reads_18 rfl (lv_at hl 0 rfl) ?_
  refine lv_iconst (v := 0) hx hb dX12_reads_19 (by decide) ?_
  refine va_put (D := D) (ci := 12) (v := .int 0) (ty := .int) (C := RX12) (T := TX12) (N := 48) hx hb hg inC12 tyX12 tyX12_ok nmX12 hown hK hP hD hS 0 rfl rfl 20 (by decide) (hg _ wt5_180) (fun _ h9 => h9) rfl (by decide +kernel) rfl rfl (Nat.le_of_ble_eq_true rfl) dX12_reads_20 (fun H locs hP hD hS => ?_)
  have hP : va_P D vwCl (mW K o r (upd f_11 20 0) a7 g8) H := hP
  have hD : va_D A (mW K o r (upd f_11 20 0) a7 g8) := hD
  refine k_gen (P := fun z => va_P D vwCl (mW K o r z a7 g8) H ∧ va_D A (mW K o r z a7 g8) ∧ (mI z a7) ∧ (mF (XR []) f a z a7) ∧ (fE [13, 14, 18, 19, 20, 21] f z)) (upd f_11 20 0) ⟨hP, hD, (mI_f hI (fI_st hI.1 20 (kb_any _) (by decide) (by decide))), (mF_f hE), (fE_f hk0 (by decide))⟩ (fun f_12 ef_12 hq => ?_)
  obtain ⟨hP, hD, hI, hE, hk0⟩ := hq
  refine lv_aload_n hx hb dX12_reads_23 rfl (lv_at hl 0 rfl) ?_
  refine lv_iconst (v := (-1)) hx hb dX12_reads_24 (by decide) ?_
  refine va_put (D := D) (ci := 12) (v := .int (-1)) (ty := .int) (C := RX12) (T := TX12) (N := 48) hx hb hg inC12 tyX12 tyX12_ok nmX12 hown hK hP hD hS 0 rfl rfl 21 (by decide) (hg _ wt5_181) (fun _ h9 => h9) rfl (by decide +kernel) rfl rfl (Nat.le_of_ble_eq_true rfl) dX12_reads_25 (fun H locs hP hD hS => ?_)
  have hP : va_P D vwCl (mW K o r (upd f_12 21 (-1)) a7 g8) H := hP
  have hD : va_D A (mW K o r (upd f_12 21 (-1)) a7 g8) := hD
  refine k_gen (P := fun z => va_P D vwCl (mW K o r z a7 g8) H ∧ va_D A (mW K o r z a7 g8) ∧ (mI z a7) ∧ (mF (XR []) f a z a7) ∧ (fE [13, 14, 18, 19, 20, 21] f z)) (upd f_12 21 (-1)) ⟨hP, hD, (mI_f hI (fI_st hI.1 21 (kb_any _) (by decide) (by decide))), (mF_f hE), (fE_f hk0 (by decide))⟩ (fun f_13 ef_13 hq => ?_)
  obtain ⟨hP, hD, hI, hE, hk0⟩ := hq
  have hk1 : rS f_13 a7 N ob := ⟨by rw [((show f_13 18 = f_12 18 from by rw [← ef_13]; rfl).trans ((show f_12 18 = f_11 18 from by rw [← ef_12]; rfl).trans ((show f_11 18 = f_10 18 from by rw [← ef_11]; rfl).trans ((show f_10 18 = f6 18 from by rw [← ef_10]; rfl).trans etn.symm))))]; exact htn, hN2, hN3, by rw [hk0 10 (by decide)]; exact hp0, by rw [hk0 8 (by decide)]; exact hp1, by rw [hk0 9 (by decide)]; exact hp2⟩
  have hk2 : f_13 13 = 0 := ((show f_13 13 = f_12 13 from by rw [← ef_13]; rfl).trans ((show f_12 13 = f_11 13 from by rw [← ef_12]; rfl).trans ((show f_11 13 = f_10 13 from by rw [← ef_11]; rfl).trans (show f_10 13 = 0 from by rw [← ef_10]; rfl))))
  refine lv_aload_n hx hb dX12_reads_28 rfl (lv_at hl 0 rfl) ?_
  refine kV.callV (As := []) (rest := []) ⟨hx, hb, hml, hown, hg⟩ (m_readOne l o r f_13 a7 g8 hI   N (0) ob hk1 (by rw [((show f_13 19 = f_12 19 from by rw [← ef_13]; rfl).trans ((show f_12 19 = f_11 19 from by rw [← ef_12]; rfl).trans (show f_11 19 = 0 from by rw [← ef_11]; rfl)))]; exact (by decide +kernel)) (Nat.zero_le N)) (cwV 0 hg (kgV wt6_192 wt6_194 wp4_4 wt1_14 wt6_195) rfl rfl rfl (by decide +kernel) ⟨by decide, by decide⟩) hK hP hD hS hA mIs [] rfl (wr := []) rfl rfl rfl (fun i h => by cases h) 0 12 rfl rfl rfl hl.1 rfl (Nat.le_of_ble_eq_true rfl) dX12_reads_29 ⟨Nat.le_refl _, Nat.le_refl _⟩ (fun u16 H locs hw14 hP hD hS => ?_)
  have hP : va_P D vwCl (mW K o r u16 a7 g8) H := hP
  have hD : va_D A (mW K o r u16 a7 g8) := hD
  have hI : mI u16 a7 := hw14.1
  have eE17 : fE [19, 20, 21] f_13 u16 := hw14.2.1
  have hE : mF (XR []) f a u16 a7 := mF_fE hE eE17 (by decide)
  have hk0 : fE [13, 14, 18, 19, 20, 21] f u16 := fE_tr hk0 (fE_w (by decide) eE17)
  have hk1 : rS u16 a7 N ob := rS_fE eE17 hk1 (by decide)
  have hk2 : u16 13 = 0 := (eE17 13 (by decide)).trans hk2
  obtain ⟨ik18, hgk18, hlek18, hNk18, hik18⟩ := hw14.2.2
  obtain ⟨gv19, egv19⟩ : ∃ z : Int32, z = u16 19 := ⟨_, rfl⟩
  have hg20 : gv19.toInt = ((ik18 : Nat) : Int) := by rw [egv19]; exact hgk18
  have b21 : kb 0 gv19 400 := kb_tok hk1 hNk18 hg20
  refine lv_iconst (v := 1) hx hb dX12_reads_32 (by decide) ?_
  refine lv_istore_n (lv' := [(1, .int 1), (0, .ref o)]) hx hb dX12_reads_33 rfl hl (by decide) rfl (fun ls hl => ?_)
  have lp24 : ∀ (n25 : Nat) (i3 : Nat) (F23 : Nat → Int32) (H : Heap) (locs : List Loc) (ls : Array Slot) (y22 : Int32), ((N : Int) < (i3 : Int) + (n25 : Int)) → (mI F23 a7) → (mF (XR []) f a F23 a7) → (fE [13, 14, 18, 19, 20, 21] f F23) → (rS F23 a7 N ob) → (F23 13 = 0) → ((F23 19).toInt = (i3 : Int)) → (i3 ≤ N) → (F23 21 = -1 → True ∧ ∀ j, gG ob (rC (a7 15) N) 8 16 i3 j → gG ob (rC (a7 15) N) 8 15 0 j) → va_P D vwCl (mW K o r F23 a7 g8) H → va_D A (mW K o r F23 a7 g8) → va_S A s.heap H locs → lv_has ls 2 [(1, .int y22), (0, .ref o)] → W p l e (rmD 50 0 0) s m ([.ref o] : List Value).toArray below meth c H locs 0 0 (kQi D (tysK K) (fun v (u : mS) => kb 0 v 1 ∧ mI u.1 u.2.1 ∧ mF (XR []) f a u.1 u.2.1 ∧ u.1 13 = 0 ∧ (∃ N : Nat, (u.1 18).toInt = (N : Int) ∧ N ≤ 400 ∧ (v = 1 → gG ob (rC (u.2.1 15) N) 8 15 0 N)) ∧ u.2.1 11 = a 11 ∧ fE [13, 14, 18, 19, 20, 21] f u.1) (fun u => mW K o r u.1 u.2.1 u.2.2) A below ([.ref o] : List Value).toArray s 0 0) (F0 m 34 ls []) := by
    intro n25
    induction n25 with
    | zero =>
      intro i3 F23  H locs ls y22 hmlp24 hI hE hk0 hk1 hk2 hvlp24_0 hvlp24_1 hvlp24_2 hP hD hS hl
      exact (by have w1 := hmlp24; have w2 := hvlp24_1; omega : False).elim
    | succ n25 ihlp24 =>
      intro i3 F23  H locs ls y22 hmlp24 hI hE hk0 hk1 hk2 hvlp24_0 hvlp24_1 hvlp24_2 hP hD hS hl
      obtain ⟨gv26, egv26⟩ : ∃ z : Int32, z = F23 19 := ⟨_, rfl⟩
      have hg27 : gv26.toInt = ((i3 : Nat) : Int) := by rw [egv26]; exact hvlp24_0
      have b28 : kb 0 gv26 400 := kb_tok hk1 hvlp24_1 hg27
      refine lv_aload_n hx hb dX12_reads_34 rfl (lv_at hl 1 rfl) ?_
      refine lv_bipush (v := 59) hx hb dX12_reads_35 (by decide) ?_
      refine kN.callS (As := [.int 59]) (rest := [.ref o]) ⟨hx, hb, hml, hown, hg⟩ (m_sign l 59 (kb_w kc_59 (by decide) (by decide))) (va_cwS 1 hg (kgS wt6_220 wt6_221 wt1_14 wt6_222) rfl rfl rfl (by decide +kernel) ⟨by decide, by decide⟩) hP hS rfl hl.1 rfl (Nat.le_of_ble_eq_true rfl) dX12_reads_37 ⟨Nat.le_refl _, Nat.le_refl _⟩ (fun v30 H locs hw29 hP hS => ?_)
      refine k_top (z := 159) (Int32.toInt_inj.mp (hw29.2.trans (by decide +kernel))) ?_
      refine kI.callV (As := [.int 159]) (rest := []) ⟨hx, hb, hml, hown, hg⟩ (m_takes0 l o r F23 a7 g8 hI 159 (kb_w kc_159 (by decide) (by decide)) N (i3) ob hk1 (by rw [egv26.symm]; exact hg27) hvlp24_1) (cwV 1 hg (kgV wt6_200 wt6_202 wp4_6 wt1_14 wt6_203) rfl rfl rfl (by decide +kernel) ⟨by decide, by decide⟩) hK hP hD hS hA mIs [] rfl (wr := []) rfl rfl rfl (fun i h => by cases h) 0 12 rfl rfl rfl hl.1 rfl (Nat.le_of_ble_eq_true rfl) dX12_reads_40 ⟨Nat.le_refl _, Nat.le_refl _⟩ (fun v33 u34 H locs hw32 hP hD hS => ?_)
      have hP : va_P D vwCl (mW K o r u34 a7 g8) H := hP
      have hD : va_D A (mW K o r u34 a7 g8) := hD
      have hI : mI u34 a7 := hw32.2.1
      have eE35 : fE [19] F23 u34 := hw32.2.2.1
      have hE : mF (XR []) f a u34 a7 := mF_fE hE eE35 (by decide)
      have hk0 : fE [13, 14, 18, 19, 20, 21] f u34 := fE_tr hk0 (fE_w (by decide) eE35)
      have hk1 : rS u34 a7 N ob := rS_fE eE35 hk1 (by decide)
      have hk2 : u34 13 = 0 := (eE35 13 (by decide)).trans hk2
      rcases hw32.2.2.2 with ⟨hvk36, hbk36, htk36, hpk36, hlk36⟩ | ⟨hvk36, hnk36, hpk36⟩
      · refine k_top (z := 1) hvk36 ?_
        obtain ⟨gv37, egv37⟩ : ∃ z : Int32, z = u34 19 := ⟨_, rfl⟩
        have hg38 : gv37.toInt = ((i3 + 1 : Nat) : Int) := by rw [egv37]; exact hpk36
        have b39 : kb 0 gv37 400 := kb_tok hk1 hlk36 hg38
        refine lv_if_eq (tgt := 73) hx hb dX12_reads_43 (by decide) (fun c40 => ?_) (fun c40 => ?_)
        · exact kb_dj c40 kc_1 kc_0 (by decide)
        · refine lv_iload_n hx hb dX12_reads_46 rfl (lv_at hl 0 rfl) ?_
          refine lv_bipush (v := 12) hx hb dX12_reads_47 (by decide) ?_
          refine lv_icmp_ne (tgt := 56) hx hb dX12_reads_49 (by decide) (fun c41 => ?_) (fun c41 => ?_)
          · refine lv_aload_n hx hb dX12_reads_56 rfl (lv_at hl 1 rfl) ?_
            refine kI.callV (As := []) (rest := []) ⟨hx, hb, hml, hown, hg⟩ (m_fine l o r u34 a7 g8 hI   ) (cwV 0 hg (kgV wt6_204 wt6_206 wp4_7 wt1_14 wt6_207) rfl rfl rfl (by decide +kernel) ⟨by decide, by decide⟩) hK hP hD hS hA mIs [] rfl (wr := []) rfl rfl rfl (fun i h => by cases h) 0 12 rfl rfl rfl hl.1 rfl (Nat.le_of_ble_eq_true rfl) dX12_reads_57 ⟨Nat.le_refl _, Nat.le_refl _⟩ (fun v43 u44 H locs hw42 hP hD hS => ?_)
            have hP : va_P D vwCl (mW K o r u34 a7 g8) H := hP
            have hD : va_D A (mW K o r u34 a7 g8) := hD
            rcases hw42.2 with hf45 | hf45
            · refine k_top (z := 1) hf45.1 ?_
              have q46 := (eE35 21 (by decide)).symm.trans hf45.2
              obtain ⟨q47, xc⟩ := hvlp24_2 q46
              refine lv_if_eq (tgt := 67) hx hb dX12_reads_60 (by decide) (fun c48 => ?_) (fun c48 => ?_)
              · exact kb_dj c48 kc_1 kc_0 (by decide)
              · refine lv_aload_n hx hb dX12_reads_63 rfl (lv_at hl 1 rfl) ?_
                refine kV.callV (As := []) (rest := []) ⟨hx, hb, hml, hown, hg⟩ (m_readOne l o r u34 a7 g8 hI   N (i3 + 1) ob hk1 (by rw [egv37.symm]; exact hg38) hlk36) (cwV 0 hg (kgV wt6_192 wt6_194 wp4_4 wt1_14 wt6_195) rfl rfl rfl (by decide +kernel) ⟨by decide, by decide⟩) hK hP hD hS hA mIs [] rfl (wr := []) rfl rfl rfl (fun i h => by cases h) 0 12 rfl rfl rfl hl.1 rfl (Nat.le_of_ble_eq_true rfl) dX12_reads_64 ⟨Nat.le_refl _, Nat.le_refl _⟩ (fun u51 H locs hw49 hP hD hS => ?_)
                have hP : va_P D vwCl (mW K o r u51 a7 g8) H := hP
                have hD : va_D A (mW K o r u51 a7 g8) := hD
                have hI : mI u51 a7 := hw49.1
                have eE52 : fE [19, 20, 21] u34 u51 := hw49.2.1
                have hE : mF (XR []) f a u51 a7 := mF_fE hE eE52 (by decide)
                have hk0 : fE [13, 14, 18, 19, 20, 21] f u51 := fE_tr hk0 (fE_w (by decide) eE52)
                have hk1 : rS u51 a7 N ob := rS_fE eE52 hk1 (by decide)
                have hk2 : u51 13 = 0 := (eE52 13 (by decide)).trans hk2
                obtain ⟨ik53, hgk53, hlek53, hNk53, hik53⟩ := hw49.2.2
                obtain ⟨gv54, egv54⟩ : ∃ z : Int32, z = u51 19 := ⟨_, rfl⟩
                have hg55 : gv54.toInt = ((ik53 : Nat) : Int) := by rw [egv54]; exact hgk53
                have b56 : kb 0 gv54 400 := kb_tok hk1 hNk53 hg55
                obtain ⟨t57, et57⟩ : ∃ z : Int32, z = y22 + Int32.ofInt 1 := ⟨_, rfl⟩
                refine lv_iinc (v := t57) (lv' := [(1, .int t57), (0, .ref o)]) hx hb dX12_reads_67 hl (k := 0) rfl et57.symm (by decide) rfl (fun ls hl => ?_)
                refine lv_goto (tgt := 34) hx hb dX12_reads_70 (by decide) ?_
                exact ihlp24 (ik53) u51 _ _ _ t57 (by omega) hI hE hk0 hk1 hk2 (by rw [egv54.symm]; exact hg55) (hNk53) (fun hq => by obtain ⟨q58, xk53⟩ := hik53 hq; have q59 := (eE35 21 (by decide)).symm.trans q58; obtain ⟨q60, xc⟩ := hvlp24_2 q59; exact ⟨trivial, fun j h6 => xc j (gi_16y htk36 (gi_15 xk53 h6))⟩) hP hD hS (lv_sub hl [0, 1] rfl)
            · refine k_top (z := 0) hf45.1 ?_
              refine lv_if_eq (tgt := 67) hx hb dX12_reads_60 (by decide) (fun c61 => ?_) (fun c61 => ?_)
              · obtain ⟨t62, et62⟩ : ∃ z : Int32, z = y22 + Int32.ofInt 1 := ⟨_, rfl⟩
                refine lv_iinc (v := t62) (lv' := [(1, .int t62), (0, .ref o)]) hx hb dX12_reads_67 hl (k := 0) rfl et62.symm (by decide) rfl (fun ls hl => ?_)
                refine lv_goto (tgt := 34) hx hb dX12_reads_70 (by decide) ?_
                exact ihlp24 (i3 + 1) u34 _ _ _ t62 (by omega) hI hE hk0 hk1 hk2 (by rw [egv37.symm]; exact hg38) (hlk36) (fun hq => by exact absurd hq hf45.2) hP hD hS (lv_sub hl [0, 1] rfl)
              · exact kb_nsame c61 kc_0 kc_0
          · have b63 : kb 12 y22 12 := kb_eq c41 kc_12
            refine lv_aload_n hx hb dX12_reads_52 rfl (lv_at hl 1 rfl) ?_
            refine kV.callV (As := []) (rest := []) ⟨hx, hb, hml, hown, hg⟩ (m_faults l o r u34 a7 g8 hI   N (i3 + 1) ob hk1 (by rw [egv37.symm]; exact hg38) hlk36) (cwV 0 hg (kgV wt6_223 wt6_225 wp4_11 wt1_14 wt6_226) rfl rfl rfl (by decide +kernel) ⟨by decide, by decide⟩) hK hP hD hS hA mIs [] rfl (wr := []) rfl rfl rfl (fun i h => by cases h) 0 12 rfl rfl rfl hl.1 rfl (Nat.le_of_ble_eq_true rfl) dX12_reads_53 ⟨Nat.le_refl _, Nat.le_refl _⟩ (fun u66 H locs hw64 hP hD hS => ?_)
            have hP : va_P D vwCl (mW K o r u66 a7 g8) H := hP
            have hD : va_D A (mW K o r u66 a7 g8) := hD
            have hI : mI u66 a7 := hw64.1
            have eE67 : fE [21] u34 u66 := hw64.2.1
            have hE : mF (XR []) f a u66 a7 := mF_fE hE eE67 (by decide)
            have hk0 : fE [13, 14, 18, 19, 20, 21] f u66 := fE_tr hk0 (fE_w (by decide) eE67)
            have hk1 : rS u66 a7 N ob := rS_fE eE67 hk1 (by decide)
            have hk2 : u66 13 = 0 := (eE67 13 (by decide)).trans hk2
            refine lv_aload_n hx hb dX12_reads_56 rfl (lv_at hl 1 rfl) ?_
            refine kI.callV (As := []) (rest := []) ⟨hx, hb, hml, hown, hg⟩ (m_fine l o r u66 a7 g8 hI   ) (cwV 0 hg (kgV wt6_204 wt6_206 wp4_7 wt1_14 wt6_207) rfl rfl rfl (by decide +kernel) ⟨by decide, by decide⟩) hK hP hD hS hA mIs [] rfl (wr := []) rfl rfl rfl (fun i h => by cases h) 0 12 rfl rfl rfl hl.1 rfl (Nat.le_of_ble_eq_true rfl) dX12_reads_57 ⟨Nat.le_refl _, Nat.le_refl _⟩ (fun v69 u70 H locs hw68 hP hD hS => ?_)
            have hP : va_P D vwCl (mW K o r u66 a7 g8) H := hP
            have hD : va_D A (mW K o r u66 a7 g8) := hD
            rcases hw68.2 with hf71 | hf71
            · refine k_top (z := 1) hf71.1 ?_
              exact absurd hf71.2 hw64.2.2
            · refine k_top (z := 0) hf71.1 ?_
              refine lv_if_eq (tgt := 67) hx hb dX12_reads_60 (by decide) (fun c72 => ?_) (fun c72 => ?_)
              · obtain ⟨t73, et73⟩ : ∃ z : Int32, z = y22 + Int32.ofInt 1 := ⟨_, rfl⟩
                have qt73 : t73.toInt = y22.toInt + 1 := by rw [et73]; exact km_inc b63 (by decide) (by decide)
                have b74 : kb 13 t73 13 := kb_inc (k := 1) qt73 b63
                refine lv_iinc (v := t73) (lv' := [(1, .int t73), (0, .ref o)]) hx hb dX12_reads_67 hl (k := 0) rfl et73.symm (by decide) rfl (fun ls hl => ?_)
                refine lv_goto (tgt := 34) hx hb dX12_reads_70 (by decide) ?_
                exact ihlp24 (i3 + 1) u66 _ _ _ t73 (by omega) hI hE hk0 hk1 hk2 (by rw [((eE67 19 (by decide)).trans egv37.symm)]; exact hg38) (hlk36) (fun hq => by exact absurd hq hf71.2) hP hD hS (lv_sub hl [0, 1] rfl)
              · exact kb_nsame c72 kc_0 kc_0
      · refine k_top (z := 0) hvk36 ?_
        obtain ⟨gv75, egv75⟩ : ∃ z : Int32, z = u34 19 := ⟨_, rfl⟩
        have hg76 : gv75.toInt = ((i3 : Nat) : Int) := by rw [egv75]; exact hpk36
        have b77 : kb 0 gv75 400 := kb_tok hk1 hvlp24_1 hg76
        refine lv_if_eq (tgt := 73) hx hb dX12_reads_43 (by decide) (fun c78 => ?_) (fun c78 => ?_)
        · refine lv_aload_n hx hb dX12_reads_73 rfl (lv_at hl 1 rfl) ?_
          refine kI.callV (As := []) (rest := []) ⟨hx, hb, hml, hown, hg⟩ (m_fine l o r u34 a7 g8 hI   ) (cwV 0 hg (kgV wt6_204 wt6_206 wp4_7 wt1_14 wt6_207) rfl rfl rfl (by decide +kernel) ⟨by decide, by decide⟩) hK hP hD hS hA mIs [] rfl (wr := []) rfl rfl rfl (fun i h => by cases h) 0 12 rfl rfl rfl hl.1 rfl (Nat.le_of_ble_eq_true rfl) dX12_reads_74 ⟨Nat.le_refl _, Nat.le_refl _⟩ (fun v80 u81 H locs hw79 hP hD hS => ?_)
          have hP : va_P D vwCl (mW K o r u34 a7 g8) H := hP
          have hD : va_D A (mW K o r u34 a7 g8) := hD
          rcases hw79.2 with hf82 | hf82
          · refine k_top (z := 1) hf82.1 ?_
            have q83 := (eE35 21 (by decide)).symm.trans hf82.2
            have nnk36 := hnk36 q83
            obtain ⟨q84, xc⟩ := hvlp24_2 q83
            refine lv_if_eq (tgt := 95) hx hb dX12_reads_77 (by decide) (fun c85 => ?_) (fun c85 => ?_)
            · exact kb_dj c85 kc_1 kc_0 (by decide)
            · refine lv_aload_n hx hb dX12_reads_80 rfl (lv_at hl 1 rfl) ?_
              refine va_get (D := D) (ci := 12) (v := .int (u34 19)) (C := RX12) (T := TX12) (N := 48) hx hb hg inC12 hown hK hP 0 rfl rfl 19 (by decide) (hg _ wt5_179) (fun _ h9 => h9) rfl dX12_reads_81 ?_
              refine k_top (z := gv75) egv75.symm ?_
              refine lv_aload_n hx hb dX12_reads_84 rfl (lv_at hl 1 rfl) ?_
              refine va_get (D := D) (ci := 12) (v := .int (u34 18)) (C := RX12) (T := TX12) (N := 48) hx hb hg inC12 hown hK hP 0 rfl rfl 18 (by decide) (hg _ wt5_178) (fun _ h9 => h9) rfl dX12_reads_85 ?_
              refine lv_topi (fun t86 et86 => ?_)
              have b87 : kb 0 t86 400 := kb_eq et86 (fI_at hI.1 18 (by decide) (by decide))
              refine lv_icmp_ge (tgt := 95) hx hb dX12_reads_88 (by decide) (fun c88 => ?_) (fun c88 => ?_)
              · have h89 := (kc_le c88)
                refine lv_aload_n hx hb dX12_reads_95 rfl (lv_at hl 1 rfl) ?_
                refine lv_aload_n hx hb dX12_reads_96 rfl (lv_at hl 1 rfl) ?_
                refine va_get (D := D) (ci := 12) (v := .int (u34 21)) (C := RX12) (T := TX12) (N := 48) hx hb hg inC12 hown hK hP 0 rfl rfl 21 (by decide) (hg _ wt5_181) (fun _ h9 => h9) rfl dX12_reads_97 ?_
                refine lv_topi (fun t90 et90 => ?_)
                refine va_put (D := D) (ci := 12) (v := .int t90) (ty := .int) (C := RX12) (T := TX12) (N := 48) hx hb hg inC12 tyX12 tyX12_ok nmX12 hown hK hP hD hS 0 rfl rfl 14 (by decide) (hg _ wt5_174) (fun _ h9 => h9) rfl (by decide +kernel) rfl rfl (Nat.le_of_ble_eq_true rfl) dX12_reads_100 (fun H locs hP hD hS => ?_)
                have hP : va_P D vwCl (mW K o r (upd u34 14 t90) a7 g8) H := hP
                have hD : va_D A (mW K o r (upd u34 14 t90) a7 g8) := hD
                refine k_gen (P := fun z => va_P D vwCl (mW K o r z a7 g8) H ∧ va_D A (mW K o r z a7 g8) ∧ (mI z a7) ∧ (mF (XR []) f a z a7) ∧ (fE [13, 14, 18, 19, 20, 21] f z) ∧ (rS z a7 N ob) ∧ (z 13 = 0)) (upd u34 14 t90) ⟨hP, hD, (mI_f hI (fI_st hI.1 14 (kb_any _) (by decide) (by decide))), (mF_f hE), (fE_f hk0 (by decide)), (rS_f hk1 (by decide) (by decide) (by decide) (by decide)), ((pk_un (by decide)).trans hk2)⟩ (fun f_91 ef_91 hq => ?_)
                obtain ⟨hP, hD, hI, hE, hk0, hk1, hk2⟩ := hq
                refine lv_aload_n hx hb dX12_reads_103 rfl (lv_at hl 1 rfl) ?_
                refine kI.callV (As := []) (rest := []) ⟨hx, hb, hml, hown, hg⟩ (m_fine l o r f_91 a7 g8 hI   ) (cwV 0 hg (kgV wt6_204 wt6_206 wp4_7 wt1_14 wt6_207) rfl rfl rfl (by decide +kernel) ⟨by decide, by decide⟩) hK hP hD hS hA mIs [] rfl (wr := []) rfl rfl rfl (fun i h => by cases h) 0 12 rfl rfl rfl hl.1 rfl (Nat.le_of_ble_eq_true rfl) dX12_reads_104 ⟨Nat.le_refl _, Nat.le_refl _⟩ (fun v93 u94 H locs hw92 hP hD hS => ?_)
                have hP : va_P D vwCl (mW K o r f_91 a7 g8) H := hP
                have hD : va_D A (mW K o r f_91 a7 g8) := hD
                rcases hw92.2 with hf95 | hf95
                · refine k_top (z := 1) hf95.1 ?_
                  have q96 := ((show f_91 21 = u34 21 from by rw [← ef_91]; rfl)).symm.trans hf95.2
                  have q97 := (eE35 21 (by decide)).symm.trans q96
                  have nnk36 := hnk36 q97
                  obtain ⟨q98, xc⟩ := hvlp24_2 q97
                  exact kI_ret (v := 1) hx hb hr hlocks (by decide +kernel) hK hS dX12_reads_107 (f_91, a7, g8) hP hD ⟨(kb_w kc_1 (by decide) (by decide)), hI, hE, hk2, ⟨N, (hk1).1, hN2, (fun _ => by have hiN : i3 = N := (by have w1 := hk1.1; have w2 := hvlp24_1; have w3 := congrArg Int32.toInt ((show f_91 18 = u34 18 from by rw [← ef_91]; rfl).trans et86.symm); omega); have hz := xc _ (gi_16n nnk36); rw [hiN] at hz; exact hz)⟩, h11, hk0⟩
                · refine k_top (z := 0) hf95.1 ?_
                  exact kI_ret (v := 0) hx hb hr hlocks (by decide +kernel) hK hS dX12_reads_107 (f_91, a7, g8) hP hD ⟨(kb_w kc_0 (by decide) (by decide)), hI, hE, hk2, ⟨N, (hk1).1, hN2, (fun q => absurd q (by decide +kernel))⟩, h11, hk0⟩
              · have h99 := (kc_nle c88)
                have b100 : kb 0 gv75 399 := kr_lt1 h99 b77 b87 (by decide)
                have b101 : kb 1 t86 400 := kr_lt2 h99 b77 b87 (by decide)
                refine lv_aload_n hx hb dX12_reads_91 rfl (lv_at hl 1 rfl) ?_
                refine kV.callV (As := []) (rest := []) ⟨hx, hb, hml, hown, hg⟩ (m_faults l o r u34 a7 g8 hI   N (i3) ob hk1 (by rw [egv75.symm]; exact hg76) hvlp24_1) (cwV 0 hg (kgV wt6_223 wt6_225 wp4_11 wt1_14 wt6_226) rfl rfl rfl (by decide +kernel) ⟨by decide, by decide⟩) hK hP hD hS hA mIs [] rfl (wr := []) rfl rfl rfl (fun i h => by cases h) 0 12 rfl rfl rfl hl.1 rfl (Nat.le_of_ble_eq_true rfl) dX12_reads_92 ⟨Nat.le_refl _, Nat.le_refl _⟩ (fun u104 H locs hw102 hP hD hS => ?_)
                have hP : va_P D vwCl (mW K o r u104 a7 g8) H := hP
                have hD : va_D A (mW K o r u104 a7 g8) := hD
                have hI : mI u104 a7 := hw102.1
                have eE105 : fE [21] u34 u104 := hw102.2.1
                have hE : mF (XR []) f a u104 a7 := mF_fE hE eE105 (by decide)
                have hk0 : fE [13, 14, 18, 19, 20, 21] f u104 := fE_tr hk0 (fE_w (by decide) eE105)
                have hk1 : rS u104 a7 N ob := rS_fE eE105 hk1 (by decide)
                have hk2 : u104 13 = 0 := (eE105 13 (by decide)).trans hk2
                refine lv_aload_n hx hb dX12_reads_95 rfl (lv_at hl 1 rfl) ?_
                refine lv_aload_n hx hb dX12_reads_96 rfl (lv_at hl 1 rfl) ?_
                refine va_get (D := D) (ci := 12) (v := .int (u104 21)) (C := RX12) (T := TX12) (N := 48) hx hb hg inC12 hown hK hP 0 rfl rfl 21 (by decide) (hg _ wt5_181) (fun _ h9 => h9) rfl dX12_reads_97 ?_
                refine lv_topi (fun t106 et106 => ?_)
                refine va_put (D := D) (ci := 12) (v := .int t106) (ty := .int) (C := RX12) (T := TX12) (N := 48) hx hb hg inC12 tyX12 tyX12_ok nmX12 hown hK hP hD hS 0 rfl rfl 14 (by decide) (hg _ wt5_174) (fun _ h9 => h9) rfl (by decide +kernel) rfl rfl (Nat.le_of_ble_eq_true rfl) dX12_reads_100 (fun H locs hP hD hS => ?_)
                have hP : va_P D vwCl (mW K o r (upd u104 14 t106) a7 g8) H := hP
                have hD : va_D A (mW K o r (upd u104 14 t106) a7 g8) := hD
                refine k_gen (P := fun z => va_P D vwCl (mW K o r z a7 g8) H ∧ va_D A (mW K o r z a7 g8) ∧ (mI z a7) ∧ (mF (XR []) f a z a7) ∧ (fE [13, 14, 18, 19, 20, 21] f z) ∧ (rS z a7 N ob) ∧ (z 13 = 0)) (upd u104 14 t106) ⟨hP, hD, (mI_f hI (fI_st hI.1 14 (kb_any _) (by decide) (by decide))), (mF_f hE), (fE_f hk0 (by decide)), (rS_f hk1 (by decide) (by decide) (by decide) (by decide)), ((pk_un (by decide)).trans hk2)⟩ (fun f_107 ef_107 hq => ?_)
                obtain ⟨hP, hD, hI, hE, hk0, hk1, hk2⟩ := hq
                refine lv_aload_n hx hb dX12_reads_103 rfl (lv_at hl 1 rfl) ?_
                refine kI.callV (As := []) (rest := []) ⟨hx, hb, hml, hown, hg⟩ (m_fine l o r f_107 a7 g8 hI   ) (cwV 0 hg (kgV wt6_204 wt6_206 wp4_7 wt1_14 wt6_207) rfl rfl rfl (by decide +kernel) ⟨by decide, by decide⟩) hK hP hD hS hA mIs [] rfl (wr := []) rfl rfl rfl (fun i h => by cases h) 0 12 rfl rfl rfl hl.1 rfl (Nat.le_of_ble_eq_true rfl) dX12_reads_104 ⟨Nat.le_refl _, Nat.le_refl _⟩ (fun v109 u110 H locs hw108 hP hD hS => ?_)
                have hP : va_P D vwCl (mW K o r f_107 a7 g8) H := hP
                have hD : va_D A (mW K o r f_107 a7 g8) := hD
                rcases hw108.2 with hf111 | hf111
                · refine k_top (z := 1) hf111.1 ?_
                  have q112 := ((show f_107 21 = u104 21 from by rw [← ef_107]; rfl)).symm.trans hf111.2
                  exact absurd q112 hw102.2.2
                · refine k_top (z := 0) hf111.1 ?_
                  exact kI_ret (v := 0) hx hb hr hlocks (by decide +kernel) hK hS dX12_reads_107 (f_107, a7, g8) hP hD ⟨(kb_w kc_0 (by decide) (by decide)), hI, hE, hk2, ⟨N, (hk1).1, hN2, (fun q => absurd q (by decide +kernel))⟩, h11, hk0⟩
          · refine k_top (z := 0) hf82.1 ?_
            refine lv_if_eq (tgt := 95) hx hb dX12_reads_77 (by decide) (fun c113 => ?_) (fun c113 => ?_)
            · refine lv_aload_n hx hb dX12_reads_95 rfl (lv_at hl 1 rfl) ?_
              refine lv_aload_n hx hb dX12_reads_96 rfl (lv_at hl 1 rfl) ?_
              refine va_get (D := D) (ci := 12) (v := .int (u34 21)) (C := RX12) (T := TX12) (N := 48) hx hb hg inC12 hown hK hP 0 rfl rfl 21 (by decide) (hg _ wt5_181) (fun _ h9 => h9) rfl dX12_reads_97 ?_
              refine lv_topi (fun t114 et114 => ?_)
              refine va_put (D := D) (ci := 12) (v := .int t114) (ty := .int) (C := RX12) (T := TX12) (N := 48) hx hb hg inC12 tyX12 tyX12_ok nmX12 hown hK hP hD hS 0 rfl rfl 14 (by decide) (hg _ wt5_174) (fun _ h9 => h9) rfl (by decide +kernel) rfl rfl (Nat.le_of_ble_eq_true rfl) dX12_reads_100 (fun H locs hP hD hS => ?_)
              have hP : va_P D vwCl (mW K o r (upd u34 14 t114) a7 g8) H := hP
              have hD : va_D A (mW K o r (upd u34 14 t114) a7 g8) := hD
              refine k_gen (P := fun z => va_P D vwCl (mW K o r z a7 g8) H ∧ va_D A (mW K o r z a7 g8) ∧ (mI z a7) ∧ (mF (XR []) f a z a7) ∧ (fE [13, 14, 18, 19, 20, 21] f z) ∧ (rS z a7 N ob) ∧ (z 13 = 0)) (upd u34 14 t114) ⟨hP, hD, (mI_f hI (fI_st hI.1 14 (kb_any _) (by decide) (by decide))), (mF_f hE), (fE_f hk0 (by decide)), (rS_f hk1 (by decide) (by decide) (by decide) (by decide)), ((pk_un (by decide)).trans hk2)⟩ (fun f_115 ef_115 hq => ?_)
              obtain ⟨hP, hD, hI, hE, hk0, hk1, hk2⟩ := hq
              refine lv_aload_n hx hb dX12_reads_103 rfl (lv_at hl 1 rfl) ?_
              refine kI.callV (As := []) (rest := []) ⟨hx, hb, hml, hown, hg⟩ (m_fine l o r f_115 a7 g8 hI   ) (cwV 0 hg (kgV wt6_204 wt6_206 wp4_7 wt1_14 wt6_207) rfl rfl rfl (by decide +kernel) ⟨by decide, by decide⟩) hK hP hD hS hA mIs [] rfl (wr := []) rfl rfl rfl (fun i h => by cases h) 0 12 rfl rfl rfl hl.1 rfl (Nat.le_of_ble_eq_true rfl) dX12_reads_104 ⟨Nat.le_refl _, Nat.le_refl _⟩ (fun v117 u118 H locs hw116 hP hD hS => ?_)
              have hP : va_P D vwCl (mW K o r f_115 a7 g8) H := hP
              have hD : va_D A (mW K o r f_115 a7 g8) := hD
              rcases hw116.2 with hf119 | hf119
              · refine k_top (z := 1) hf119.1 ?_
                have q120 := ((show f_115 21 = u34 21 from by rw [← ef_115]; rfl)).symm.trans hf119.2
                exact absurd q120 hf82.2
              · refine k_top (z := 0) hf119.1 ?_
                exact kI_ret (v := 0) hx hb hr hlocks (by decide +kernel) hK hS dX12_reads_107 (f_115, a7, g8) hP hD ⟨(kb_w kc_0 (by decide) (by decide)), hI, hE, hk2, ⟨N, (hk1).1, hN2, (fun q => absurd q (by decide +kernel))⟩, h11, hk0⟩
            · exact kb_nsame c113 kc_0 kc_0
        · exact kb_nsame c78 kc_0 kc_0
  exact lp24 (N + 1) (ik18) u16 _ _ _ 1 (by omega) hI hE hk0 hk1 hk2 (by rw [egv19.symm]; exact hg20) (hNk18) (fun hq => by obtain ⟨q121, xk18⟩ := hik18 hq; exact ⟨trivial, fun j h6 => gi_15 xk18 h6⟩) hP hD hS (lv_sub hl [0, 1] rfl)
set_option maxHeartbeats 4000000 in
set_option maxRecDepth 100000 in
theorem m_readsAs  (l : Launch) {D : va_G} {K : Nat → ClassId} (o : Nat) (r : Nat → Nat) (f : Nat → Int32) (a : Nat → Nat → Int32) (g : Nat → Int64) (hI : mI f a) (x : Int32) (bx : kb 0 x 1)   : kI l yX12_readsAs (Cond.code yX12_readsAs cX12_readsAs 2 (some .boolean) :: kG) (rmD 51 0 0) D (tysK K) [.ref o, .int x] (mW K o r f a g) (fun v (u : mS) => kb 0 v 1 ∧ mI u.1 u.2.1 ∧ mF (XR []) f a u.1 u.2.1 ∧ u.1 13 = 0 ∧ (∃ N : Nat, (u.1 18).toInt = (N : Int) ∧ N ≤ 400 ∧ ∀ ob : Bool, x = (if ob = true then 1 else 0) → v = 1 → gG ob (rC (u.2.1 15) N) 8 15 0 N) ∧ u.2.1 11 = a 11 ∧ fE [8, 9, 10, 13, 14, 18, 19, 20, 21] f u.1) (fun u => mW K o r u.1 u.2.1 u.2.2) 0 0 := by
  refine kI.of (cc := cX12_readsAs) (maxL := 2) (ret := (some .boolean)) (by decide) rfl (Nat.le_of_ble_eq_true rfl) ?_
  intro p e s m below meth c A hx hb hr hml hown hts hlocks hnm hK hP hD hS hA ls hl
  have hE : mF (XR []) f a f a := mF_rf
  have hg : ∀ w ∈ kG, w.before _ s = true := fun w h => hts w (List.mem_cons_of_mem _ h)
  have hown : s.vm.findClass RX12 = some m.cls := hown
  have hl : lv_has ls 2 [(0, .ref o), (1, .int x)] := hl
  have hk0 : fE [8, 9, 10, 13, 14, 18, 19, 20, 21] f f := fE_rf
  refine lv_aload_n hx hb dX12_readsAs_0 rfl (lv_at hl 0 rfl) ?_
  refine lv_iload_n hx hb dX12_readsAs_1 rfl (lv_at hl 1 rfl) ?_
  refine va_put (D := D) (ci := 12) (v := .int x) (ty := .boolean) (C := RX12) (T := TX12) (N := 48) hx hb hg inC12 tyX12 tyX12_ok nmX12 hown hK hP hD hS 0 rfl rfl 10 (by decide) (hg _ wt5_170) (fun _ h9 => h9) rfl (by decide +kernel) (kb_bo bx) (kb_fit bx) (Nat.le_of_ble_eq_true rfl) dX12_readsAs_2 (fun H locs hP hD hS => ?_)
  have hP : va_P D vwCl (mW K o r (upd f 10 x) a g) H := hP
  have hD : va_D A (mW K o r (upd f 10 x) a g) := hD
  refine k_gen (P := fun z => va_P D vwCl (mW K o r z a g) H ∧ va_D A (mW K o r z a g) ∧ (mI z a) ∧ (mF (XR []) f a z a) ∧ (fE [8, 9, 10, 13, 14, 18, 19, 20, 21] f z)) (upd f 10 x) ⟨hP, hD, (mI_f hI (fI_st hI.1 10 bx (by decide) (by decide))), (mF_f hE), (fE_f hk0 (by decide))⟩ (fun f_1 ef_1 hq => ?_)
  obtain ⟨hP, hD, hI, hE, hk0⟩ := hq
  refine lv_aload_n hx hb dX12_readsAs_5 rfl (lv_at hl 0 rfl) ?_
  refine lv_iload_n hx hb dX12_readsAs_6 rfl (lv_at hl 1 rfl) ?_
  refine lv_if_eq (tgt := 15) hx hb dX12_readsAs_7 (by decide) (fun c2 => ?_) (fun c2 => ?_)
  · have b3 : kb 0 x 0 := kb_eq c2 kc_0
    refine lv_bipush (v := 9) hx hb dX12_readsAs_15 (by decide) ?_
    refine va_put (D := D) (ci := 12) (v := .int 9) (ty := .int) (C := RX12) (T := TX12) (N := 48) hx hb hg inC12 tyX12 tyX12_ok nmX12 hown hK hP hD hS 0 rfl rfl 8 (by decide) (hg _ wt5_168) (fun _ h9 => h9) rfl (by decide +kernel) rfl rfl (Nat.le_of_ble_eq_true rfl) dX12_readsAs_17 (fun H locs hP hD hS => ?_)
    have hP : va_P D vwCl (mW K o r (upd f_1 8 9) a g) H := hP
    have hD : va_D A (mW K o r (upd f_1 8 9) a g) := hD
    refine k_gen (P := fun z => va_P D vwCl (mW K o r z a g) H ∧ va_D A (mW K o r z a g) ∧ (mI z a) ∧ (mF (XR []) f a z a) ∧ (fE [8, 9, 10, 13, 14, 18, 19, 20, 21] f z)) (upd f_1 8 9) ⟨hP, hD, (mI_f hI (fI_st hI.1 8 (kb_any _) (by decide) (by decide))), (mF_f hE), (fE_f hk0 (by decide))⟩ (fun f_4 ef_4 hq => ?_)
    obtain ⟨hP, hD, hI, hE, hk0⟩ := hq
    refine lv_aload_n hx hb dX12_readsAs_20 rfl (lv_at hl 0 rfl) ?_
    refine lv_iload_n hx hb dX12_readsAs_21 rfl (lv_at hl 1 rfl) ?_
    refine lv_if_eq (tgt := 30) hx hb dX12_readsAs_22 (by decide) (fun c5 => ?_) (fun c5 => ?_)
    · refine lv_bipush (v := 18) hx hb dX12_readsAs_30 (by decide) ?_
      refine va_put (D := D) (ci := 12) (v := .int 18) (ty := .int) (C := RX12) (T := TX12) (N := 48) hx hb hg inC12 tyX12 tyX12_ok nmX12 hown hK hP hD hS 0 rfl rfl 9 (by decide) (hg _ wt5_169) (fun _ h9 => h9) rfl (by decide +kernel) rfl rfl (Nat.le_of_ble_eq_true rfl) dX12_readsAs_32 (fun H locs hP hD hS => ?_)
      have hP : va_P D vwCl (mW K o r (upd f_4 9 18) a g) H := hP
      have hD : va_D A (mW K o r (upd f_4 9 18) a g) := hD
      refine k_gen (P := fun z => va_P D vwCl (mW K o r z a g) H ∧ va_D A (mW K o r z a g) ∧ (mI z a) ∧ (mF (XR []) f a z a) ∧ (fE [8, 9, 10, 13, 14, 18, 19, 20, 21] f z)) (upd f_4 9 18) ⟨hP, hD, (mI_f hI (fI_st hI.1 9 (kb_any _) (by decide) (by decide))), (mF_f hE), (fE_f hk0 (by decide))⟩ (fun f_6 ef_6 hq => ?_)
      obtain ⟨hP, hD, hI, hE, hk0⟩ := hq
      refine lv_aload_n hx hb dX12_readsAs_35 rfl (lv_at hl 0 rfl) ?_
      have hx01 : x = 0 := kb_zero b3
      refine kI.callV (As := []) (rest := []) ⟨hx, hb, hml, hown, hg⟩ (m_reads l o r f_6 a g hI   false ((((show f_6 10 = f_4 10 from by rw [← ef_6]; rfl).trans ((show f_4 10 = f_1 10 from by rw [← ef_4]; rfl).trans (show f_1 10 = x from by rw [← ef_1]; rfl)))).trans hx01) ((show f_6 8 = f_4 8 from by rw [← ef_6]; rfl).trans (show f_4 8 = 9 from by rw [← ef_4]; rfl)) (show f_6 9 = 18 from by rw [← ef_6]; rfl)) (cwV 0 hg (kgV wt6_173 wt6_175 wp4_1 wt1_14 wt6_176) rfl rfl rfl (by decide +kernel) ⟨by decide, by decide⟩) hK hP hD hS hA mIs [] rfl (wr := []) rfl rfl rfl (fun i h => by cases h) 0 12 rfl rfl rfl hl.1 rfl (Nat.le_of_ble_eq_true rfl) dX12_readsAs_36 ⟨Nat.le_refl _, Nat.le_refl _⟩ (fun v8 u9 H locs hw7 hP hD hS => ?_)
      obtain ⟨f10, a11, g12⟩ := u9
      have hP : va_P D vwCl (mW K o r f10 a11 g12) H := hP
      have hD : va_D A (mW K o r f10 a11 g12) := hD
      have hI : mI f10 a11 := hw7.2.1
      have hE : mF (XR []) f a f10 a11 := mF_tr hE hw7.2.2.1
      have eE13 : mF (XR []) f_6 a f10 a11 := hw7.2.2.1
      have hk0 : fE [8, 9, 10, 13, 14, 18, 19, 20, 21] f f10 := fE_tr hk0 (fE_w (by decide) hw7.2.2.2.2.2.2)
      exact kI_ret (v := v8) hx hb hr hlocks (kb_bo hw7.1) hK hS dX12_readsAs_39 (f10, a11, g12) hP hD ⟨hw7.1, hI, hE, hw7.2.2.2.1, (by obtain ⟨N9, hN91, hN92, hN93⟩ := hw7.2.2.2.2.1; exact ⟨N9, hN91, hN92, fun ob hob hv => by cases ob with | false => exact hN93 hv | true => exact absurd (hob.symm.trans hx01) (by decide +kernel)⟩), hw7.2.2.2.2.2.1, hk0⟩
    · exact kb_nsame c5 b3 kc_0
  · have b14 : kb 1 x 1 := kr_nel c2 bx kc_0 (by decide)
    refine lv_bipush (v := 16) hx hb dX12_readsAs_10 (by decide) ?_
    refine lv_goto (tgt := 17) hx hb dX12_readsAs_12 (by decide) ?_
    refine va_put (D := D) (ci := 12) (v := .int 16) (ty := .int) (C := RX12) (T := TX12) (N := 48) hx hb hg inC12 tyX12 tyX12_ok nmX12 hown hK hP hD hS 0 rfl rfl 8 (by decide) (hg _ wt5_168) (fun _ h9 => h9) rfl (by decide +kernel) rfl rfl (Nat.le_of_ble_eq_true rfl) dX12_readsAs_17 (fun H locs hP hD hS => ?_)
    have hP : va_P D vwCl (mW K o r (upd f_1 8 16) a g) H := hP
    have hD : va_D A (mW K o r (upd f_1 8 16) a g) := hD
    refine k_gen (P := fun z => va_P D vwCl (mW K o r z a g) H ∧ va_D A (mW K o r z a g) ∧ (mI z a) ∧ (mF (XR []) f a z a) ∧ (fE [8, 9, 10, 13, 14, 18, 19, 20, 21] f z)) (upd f_1 8 16) ⟨hP, hD, (mI_f hI (fI_st hI.1 8 (kb_any _) (by decide) (by decide))), (mF_f hE), (fE_f hk0 (by decide))⟩ (fun f_15 ef_15 hq => ?_)
    obtain ⟨hP, hD, hI, hE, hk0⟩ := hq
    refine lv_aload_n hx hb dX12_readsAs_20 rfl (lv_at hl 0 rfl) ?_
    refine lv_iload_n hx hb dX12_readsAs_21 rfl (lv_at hl 1 rfl) ?_
    refine lv_if_eq (tgt := 30) hx hb dX12_readsAs_22 (by decide) (fun c16 => ?_) (fun c16 => ?_)
    · exact kb_dj c16 b14 kc_0 (by decide)
    · refine lv_bipush (v := 22) hx hb dX12_readsAs_25 (by decide) ?_
      refine lv_goto (tgt := 32) hx hb dX12_readsAs_27 (by decide) ?_
      refine va_put (D := D) (ci := 12) (v := .int 22) (ty := .int) (C := RX12) (T := TX12) (N := 48) hx hb hg inC12 tyX12 tyX12_ok nmX12 hown hK hP hD hS 0 rfl rfl 9 (by decide) (hg _ wt5_169) (fun _ h9 => h9) rfl (by decide +kernel) rfl rfl (Nat.le_of_ble_eq_true rfl) dX12_readsAs_32 (fun H locs hP hD hS => ?_)
      have hP : va_P D vwCl (mW K o r (upd f_15 9 22) a g) H := hP
      have hD : va_D A (mW K o r (upd f_15 9 22) a g) := hD
      refine k_gen (P := fun z => va_P D vwCl (mW K o r z a g) H ∧ va_D A (mW K o r z a g) ∧ (mI z a) ∧ (mF (XR []) f a z a) ∧ (fE [8, 9, 10, 13, 14, 18, 19, 20, 21] f z)) (upd f_15 9 22) ⟨hP, hD, (mI_f hI (fI_st hI.1 9 (kb_any _) (by decide) (by decide))), (mF_f hE), (fE_f hk0 (by decide))⟩ (fun f_17 ef_17 hq => ?_)
      obtain ⟨hP, hD, hI, hE, hk0⟩ := hq
      refine lv_aload_n hx hb dX12_readsAs_35 rfl (lv_at hl 0 rfl) ?_
      have hx01 : x = 1 := kb_one b14
      refine kI.callV (As := []) (rest := []) ⟨hx, hb, hml, hown, hg⟩ (m_reads l o r f_17 a g hI   true ((((show f_17 10 = f_15 10 from by rw [← ef_17]; rfl).trans ((show f_15 10 = f_1 10 from by rw [← ef_15]; rfl).trans (show f_1 10 = x from by rw [← ef_1]; rfl)))).trans hx01) ((show f_17 8 = f_15 8 from by rw [← ef_17]; rfl).trans (show f_15 8 = 16 from by rw [← ef_15]; rfl)) (show f_17 9 = 22 from by rw [← ef_17]; rfl)) (cwV 0 hg (kgV wt6_173 wt6_175 wp4_1 wt1_14 wt6_176) rfl rfl rfl (by decide +kernel) ⟨by decide, by decide⟩) hK hP hD hS hA mIs [] rfl (wr := []) rfl rfl rfl (fun i h => by cases h) 0 12 rfl rfl rfl hl.1 rfl (Nat.le_of_ble_eq_true rfl) dX12_readsAs_36 ⟨Nat.le_refl _, Nat.le_refl _⟩ (fun v19 u20 H locs hw18 hP hD hS => ?_)
      obtain ⟨f21, a22, g23⟩ := u20
      have hP : va_P D vwCl (mW K o r f21 a22 g23) H := hP
      have hD : va_D A (mW K o r f21 a22 g23) := hD
      have hI : mI f21 a22 := hw18.2.1
      have hE : mF (XR []) f a f21 a22 := mF_tr hE hw18.2.2.1
      have eE24 : mF (XR []) f_17 a f21 a22 := hw18.2.2.1
      have hk0 : fE [8, 9, 10, 13, 14, 18, 19, 20, 21] f f21 := fE_tr hk0 (fE_w (by decide) hw18.2.2.2.2.2.2)
      exact kI_ret (v := v19) hx hb hr hlocks (kb_bo hw18.1) hK hS dX12_readsAs_39 (f21, a22, g23) hP hD ⟨hw18.1, hI, hE, hw18.2.2.2.1, (by obtain ⟨N9, hN91, hN92, hN93⟩ := hw18.2.2.2.2.1; exact ⟨N9, hN91, hN92, fun ob hob hv => by cases ob with | false => exact absurd (hob.symm.trans hx01) (by decide +kernel) | true => exact hN93 hv⟩), hw18.2.2.2.2.2.1, hk0⟩
set_option maxHeartbeats 4000000 in
set_option maxRecDepth 100000 in
theorem m_law  (l : Launch) {D : va_G} {K : Nat → ClassId} (o : Nat) (r : Nat → Nat) (f : Nat → Int32) (a : Nat → Nat → Int32) (g : Nat → Int64) (hI : mI f a)     : kI l yX12_law (Cond.code yX12_law cX12_law 1 (some .int) :: kG) (rmD 52 0 0) D (tysK K) [.ref o] (mW K o r f a g) (fun v (u : mS) => kb (-2147483648) v 2147483647 ∧ mI u.1 u.2.1 ∧ mF (XR [(105, 106), (107, 6000)]) f a u.1 u.2.1 ∧ u.1 13 = 0 ∧ u.1 6 = f 6 ∧ u.2.1 11 = a 11) (fun u => mW K o r u.1 u.2.1 u.2.2) 0 0 := by
  refine kI.of (cc := cX12_law) (maxL := 1) (ret := (some .int)) (by decide) rfl (Nat.le_of_ble_eq_true rfl) ?_
  intro p e s m below meth c A hx hb hr hml hown hts hlocks hnm hK hP hD hS hA ls hl
  have hE : mF (XR [(105, 106), (107, 6000)]) f a f a := mF_rf
  have hg : ∀ w ∈ kG, w.before _ s = true := fun w h => hts w (List.mem_cons_of_mem _ h)
  have hown : s.vm.findClass RX12 = some m.cls := hown
  have hl : lv_has ls 1 [(0, .ref o)] := hl
  have hk0 : f 6 = f 6 := rfl
  have hk1 : a 11 = a 11 := rfl
  refine lv_aload_n hx hb dX12_law_0 rfl (lv_at hl 0 rfl) ?_
  refine va_get (D := D) (ci := 12) (v := .ref (r 2)) (C := RX12) (T := TX12) (N := 48) hx hb hg inC12 hown hK hP 0 rfl rfl 2 (by decide) (hg _ wt5_162) (fun _ h9 => h9) rfl dX12_law_1 ?_
  refine lv_bipush (v := 105) hx hb dX12_law_4 (by decide) ?_
  refine va_iald hx hb hK hP 2 0 rfl rfl (kb_in kc_105 (by decide) (by decide)) dX12_law_6 ?_
  refine lv_topi (fun t1 et1 => ?_)
  rw [cl_105] at et1
  have b2 : kb 0 t1 6 := kb_eq et1 (aI_at hI.2.1 2 105 (by decide) (by decide))
  refine lv_bipush (v := 6) hx hb dX12_law_7 (by decide) ?_
  refine lv_icmp_ne (tgt := 24) hx hb dX12_law_9 (by decide) (fun c3 => ?_) (fun c3 => ?_)
  · have b4 : kb 0 t1 5 := kr_neh c3 b2 kc_6 (by decide)
    refine lv_aload_n hx hb dX12_law_24 rfl (lv_at hl 0 rfl) ?_
    refine lv_iconst (v := 0) hx hb dX12_law_25 (by decide) ?_
    refine kI.callV (As := [.int 0]) (rest := []) ⟨hx, hb, hml, hown, hg⟩ (m_readsAs l o r f a g hI 0 (kb_w kc_0 (by decide) (by decide)) ) (cwV 1 hg (kgV wt6_169 wt6_171 wp4_0 wt1_14 wt6_172) rfl rfl rfl (by decide +kernel) ⟨by decide, by decide⟩) hK hP hD hS hA mIs [] rfl (wr := []) rfl rfl rfl (fun i h => by cases h) 0 12 rfl rfl rfl hl.1 rfl (Nat.le_of_ble_eq_true rfl) dX12_law_26 ⟨Nat.le_refl _, Nat.le_refl _⟩ (fun v6 u7 H locs hw5 hP hD hS => ?_)
    obtain ⟨f8, a9, g10⟩ := u7
    have hP : va_P D vwCl (mW K o r f8 a9 g10) H := hP
    have hD : va_D A (mW K o r f8 a9 g10) := hD
    have hI : mI f8 a9 := hw5.2.1
    have hE : mF (XR [(105, 106), (107, 6000)]) f a f8 a9 := mF_tr hE (mF_w (XR_w (by decide)) hw5.2.2.1)
    have eE11 : mF (XR []) f a f8 a9 := hw5.2.2.1
    have hk0 : f8 6 = f 6 := (hw5.2.2.2.2.2.2 6 (by decide)).trans hk0
    have hk1 : a9 11 = a 11 := hw5.2.2.2.2.2.1.trans hk1
    obtain ⟨N, hN1, hN2, hN3⟩ := hw5.2.2.2.2.1
    refine lv_if_ne (tgt := 39) hx hb dX12_law_29 (by decide) (fun c12 => ?_) (fun c12 => ?_)
    · have b13 : kb 1 v6 1 := kr_nel c12 hw5.1 kc_0 (by decide)
      refine lv_aload_n hx hb dX12_law_39 rfl (lv_at hl 0 rfl) ?_
      refine lv_aload_n hx hb dX12_law_40 rfl (lv_at hl 0 rfl) ?_
      refine va_get (D := D) (ci := 12) (v := .ref (r 2)) (C := RX12) (T := TX12) (N := 48) hx hb hg inC12 hown hK hP 0 rfl rfl 2 (by decide) (hg _ wt5_162) (fun _ h9 => h9) rfl dX12_law_41 ?_
      refine lv_bipush (v := 105) hx hb dX12_law_44 (by decide) ?_
      refine va_iald hx hb hK hP 2 0 rfl rfl (kb_in kc_105 (by decide) (by decide)) dX12_law_46 ?_
      refine k_top (z := t1) (by rw [cl_105]; exact (((mE_F eE11).2.2.1 (105) rfl).trans et1.symm)) ?_
      refine kV.callV (As := [.int t1]) (rest := []) ⟨hx, hb, hml, hown, hg⟩ (m_lays l o r f8 a9 g10 hI t1 (kb_w b4 (by decide) (by decide)) N trivial hN1 hN2 (fun _ => hN3 false rfl (kb_one b13))) (cwV 1 hg (kgV wt7_15 wt7_17 wp5_3 wt1_14 wt7_18) rfl rfl rfl (by decide +kernel) ⟨by decide, by decide⟩) hK hP hD hS hA mIs [] rfl (wr := []) rfl rfl rfl (fun i h => by cases h) 0 12 rfl rfl rfl hl.1 rfl (Nat.le_of_ble_eq_true rfl) dX12_law_47 ⟨Nat.le_refl _, Nat.le_refl _⟩ (fun u16 H locs hw14 hP hD hS => ?_)
      obtain ⟨f17, a18, g19⟩ := u16
      have hP : va_P D vwCl (mW K o r f17 a18 g19) H := hP
      have hD : va_D A (mW K o r f17 a18 g19) := hD
      have hI : mI f17 a18 := hw14.1
      have hE : mF (XR [(105, 106), (107, 6000)]) f a f17 a18 := mF_tr hE (mF_w (XR_w (by decide)) (mF_of hw14.2.1))
      have eE20 : mE (XR [(107, 6000)]) f8 a9 f17 a18 := hw14.2.1
      have hk0 : f17 6 = f 6 := (congrFun hw14.2.2.2 6).trans hk0
      have hk1 : a18 11 = a 11 := eE20.2.1.trans hk1
      refine lv_aload_n hx hb dX12_law_50 rfl (lv_at hl 0 rfl) ?_
      refine va_get (D := D) (ci := 12) (v := .ref (r 2)) (C := RX12) (T := TX12) (N := 48) hx hb hg inC12 hown hK hP 0 rfl rfl 2 (by decide) (hg _ wt5_162) (fun _ h9 => h9) rfl dX12_law_51 ?_
      refine lv_bipush (v := 105) hx hb dX12_law_54 (by decide) ?_
      refine lv_dup2_11 hx hb dX12_law_56 rfl rfl ?_
      refine va_iald hx hb hK hP 2 0 rfl rfl (kb_in kc_105 (by decide) (by decide)) dX12_law_57 ?_
      refine k_top (z := t1) (by rw [cl_105]; exact ((eE20.2.2.1 105 (by decide)).trans (((mE_F eE11).2.2.1 (105) rfl).trans et1.symm))) ?_
      refine lv_iconst (v := 1) hx hb dX12_law_58 (by decide) ?_
      refine lv_iadd hx hb dX12_law_59 ?_
      refine lv_topi (fun t21 et21 => ?_)
      have b22 : kb 1 t21 6 := kb_eq et21 (kb_add b4 kc_1 (by decide) (by decide))
      have qt21 : t21.toInt = t1.toInt + 1 := by rw [et21]; exact kt_addc b4 kc_1 (by decide) (by decide)
      refine va_iast hx hb hK hP hD hS 2 0 rfl rfl (kb_in kc_105 (by decide) (by decide)) dX12_law_60 (fun H locs hP hD hS => ?_)
      rw [cl_105] at hP hD
      have hP : va_P D vwCl (mW K o r f17 (va_up a18 2 (upd (a18 2) 105 t21)) g19) H := hP
      have hD : va_D A (mW K o r f17 (va_up a18 2 (upd (a18 2) 105 t21)) g19) := hD
      refine k_gen (P := fun z => va_P D vwCl (mW K o r f17 z g19) H ∧ va_D A (mW K o r f17 z g19) ∧ (mI f17 z) ∧ (mF (XR [(105, 106), (107, 6000)]) f a f17 z) ∧ (f17 6 = f 6) ∧ (z 11 = a 11)) (va_up a18 2 (upd (a18 2) 105 t21)) ⟨hP, hD, (mI_2 hI (aI_st hI.2.1 2 105 b22 (by decide) (by decide)) (by decide)), (mF_2 hE (by decide)), hk0, hk1⟩ (fun a_23 ea_23 hq => ?_)
      obtain ⟨hP, hD, hI, hE, hk0, hk1⟩ := hq
      refine lv_aload_n hx hb dX12_law_61 rfl (lv_at hl 0 rfl) ?_
      refine lv_aload_n hx hb dX12_law_62 rfl (lv_at hl 0 rfl) ?_
      refine va_get (D := D) (ci := 12) (v := .ref (r 2)) (C := RX12) (T := TX12) (N := 48) hx hb hg inC12 hown hK hP 0 rfl rfl 2 (by decide) (hg _ wt5_162) (fun _ h9 => h9) rfl dX12_law_63 ?_
      refine lv_bipush (v := 105) hx hb dX12_law_66 (by decide) ?_
      refine va_iald hx hb hK hP 2 0 rfl rfl (kb_in kc_105 (by decide) (by decide)) dX12_law_68 ?_
      refine k_top (z := t21) (by rw [cl_105]; exact (show a_23 2 105 = t21 from by rw [← ea_23]; exact (pk_us (f := a18 2) (k := 105) (x := t21)))) ?_
      refine lv_iconst (v := 1) hx hb dX12_law_69 (by decide) ?_
      refine lv_isub hx hb dX12_law_70 ?_
      refine lv_topi (fun t24 et24 => ?_)
      have b25 : kb 0 t24 5 := kb_eq et24 (kb_sub b22 kc_1 (by decide) (by decide))
      have qt24 : t24.toInt = t21.toInt - 1 := by rw [et24]; exact kt_subc b22 kc_1 (by decide) (by decide)
      refine kI.callV (As := [.int t24]) (rest := []) ⟨hx, hb, hml, hown, hg⟩ (m_good l o r f17 a_23 g19 hI t24  ) (cwV 1 hg (kgV wt6_76 wt6_78 wp3_6 wt1_14 wt6_79) rfl rfl rfl (by decide +kernel) ⟨by decide, by decide⟩) hK hP hD hS hA mIs [] rfl (wr := []) rfl rfl rfl (fun i h => by cases h) 0 12 rfl rfl rfl hl.1 rfl (Nat.le_of_ble_eq_true rfl) dX12_law_71 ⟨Nat.le_refl _, Nat.le_refl _⟩ (fun v27 u28 H locs hw26 hP hD hS => ?_)
      obtain ⟨f29, a30, g31⟩ := u28
      have hP : va_P D vwCl (mW K o r f29 a30 g31) H := hP
      have hD : va_D A (mW K o r f29 a30 g31) := hD
      have hI : mI f29 a30 := hw26.2.1
      have hE : mF (XR [(105, 106), (107, 6000)]) f a f29 a30 := mF_tr hE (mF_w (XR_w (by decide)) (mF_of hw26.2.2.1))
      have eE32 : mE (XR []) f17 a_23 f29 a30 := hw26.2.2.1
      have hk0 : f29 6 = f 6 := (eE32.1 6 rfl).trans hk0
      have hk1 : a30 11 = a 11 := eE32.2.1.trans hk1
      refine k_top (z := t24) hw26.2.2.2 ?_
      exact kI_ret (v := t24) hx hb hr hlocks rfl hK hS dX12_law_74 (f29, a30, g31) hP hD ⟨(kb_w b25 (by decide) (by decide)), hI, hE, ((eE32.1 13 rfl).trans ((congrFun hw14.2.2.2 13).trans hw5.2.2.2.1)), hk0, hk1⟩
    · have b33 : kb 0 v6 0 := kb_eq c12 kc_0
      refine lv_aload_n hx hb dX12_law_32 rfl (lv_at hl 0 rfl) ?_
      refine lv_bipush (v := (-6)) hx hb dX12_law_33 (by decide) ?_
      refine kI.callV (As := [.int (-6)]) (rest := []) ⟨hx, hb, hml, hown, hg⟩ (m_refuses l o r f8 a9 g10 hI (-6) (kb_w kc_m6 (by decide) (by decide)) ) (cwV 1 hg (kgV wt6_72 wt6_74 wp3_5 wt1_14 wt6_75) rfl rfl rfl (by decide +kernel) ⟨by decide, by decide⟩) hK hP hD hS hA mIs [] rfl (wr := []) rfl rfl rfl (fun i h => by cases h) 0 12 rfl rfl rfl hl.1 rfl (Nat.le_of_ble_eq_true rfl) dX12_law_35 ⟨Nat.le_refl _, Nat.le_refl _⟩ (fun v35 u36 H locs hw34 hP hD hS => ?_)
      obtain ⟨f37, a38, g39⟩ := u36
      have hP : va_P D vwCl (mW K o r f37 a38 g39) H := hP
      have hD : va_D A (mW K o r f37 a38 g39) := hD
      have hI : mI f37 a38 := hw34.2.1
      have hE : mF (XR [(105, 106), (107, 6000)]) f a f37 a38 := mF_tr hE (mF_w (XR_w (by decide)) (mF_of hw34.2.2.1))
      have eE40 : mE (XR []) f8 a9 f37 a38 := hw34.2.2.1
      have hk0 : f37 6 = f 6 := (eE40.1 6 rfl).trans hk0
      have hk1 : a38 11 = a 11 := eE40.2.1.trans hk1
      refine k_top (z := (-6)) hw34.2.2.2 ?_
      exact kI_ret (v := (-6)) hx hb hr hlocks rfl hK hS dX12_law_38 (f37, a38, g39) hP hD ⟨(kb_w kc_m6 (by decide) (by decide)), hI, hE, ((eE40.1 13 rfl).trans hw5.2.2.2.1), hk0, hk1⟩
  · have b41 : kb 6 t1 6 := kb_eq c3 kc_6
    refine lv_aload_n hx hb dX12_law_12 rfl (lv_at hl 0 rfl) ?_
    refine lv_iconst (v := 0) hx hb dX12_law_13 (by decide) ?_
    refine va_put (D := D) (ci := 12) (v := .int 0) (ty := .int) (C := RX12) (T := TX12) (N := 48) hx hb hg inC12 tyX12 tyX12_ok nmX12 hown hK hP hD hS 0 rfl rfl 13 (by decide) (hg _ wt5_173) (fun _ h9 => h9) rfl (by decide +kernel) rfl rfl (Nat.le_of_ble_eq_true rfl) dX12_law_14 (fun H locs hP hD hS => ?_)
    have hP : va_P D vwCl (mW K o r (upd f 13 0) a g) H := hP
    have hD : va_D A (mW K o r (upd f 13 0) a g) := hD
    refine k_gen (P := fun z => va_P D vwCl (mW K o r z a g) H ∧ va_D A (mW K o r z a g) ∧ (mI z a) ∧ (mF (XR [(105, 106), (107, 6000)]) f a z a) ∧ (z 6 = f 6) ∧ (a 11 = a 11)) (upd f 13 0) ⟨hP, hD, (mI_f hI (fI_st hI.1 13 kc_0 (by decide) (by decide))), (mF_f hE), ((pk_un (by decide)).trans hk0), hk1⟩ (fun f_42 ef_42 hq => ?_)
    obtain ⟨hP, hD, hI, hE, hk0, hk1⟩ := hq
    refine lv_aload_n hx hb dX12_law_17 rfl (lv_at hl 0 rfl) ?_
    refine lv_bipush (v := (-5)) hx hb dX12_law_18 (by decide) ?_
    refine kI.callV (As := [.int (-5)]) (rest := []) ⟨hx, hb, hml, hown, hg⟩ (m_refuses l o r f_42 a g hI (-5) (kb_w kc_m5 (by decide) (by decide)) ) (cwV 1 hg (kgV wt6_72 wt6_74 wp3_5 wt1_14 wt6_75) rfl rfl rfl (by decide +kernel) ⟨by decide, by decide⟩) hK hP hD hS hA mIs [] rfl (wr := []) rfl rfl rfl (fun i h => by cases h) 0 12 rfl rfl rfl hl.1 rfl (Nat.le_of_ble_eq_true rfl) dX12_law_20 ⟨Nat.le_refl _, Nat.le_refl _⟩ (fun v44 u45 H locs hw43 hP hD hS => ?_)
    obtain ⟨f46, a47, g48⟩ := u45
    have hP : va_P D vwCl (mW K o r f46 a47 g48) H := hP
    have hD : va_D A (mW K o r f46 a47 g48) := hD
    have hI : mI f46 a47 := hw43.2.1
    have hE : mF (XR [(105, 106), (107, 6000)]) f a f46 a47 := mF_tr hE (mF_w (XR_w (by decide)) (mF_of hw43.2.2.1))
    have eE49 : mE (XR []) f_42 a f46 a47 := hw43.2.2.1
    have hk0 : f46 6 = f 6 := (eE49.1 6 rfl).trans hk0
    have hk1 : a47 11 = a 11 := eE49.2.1.trans hk1
    refine k_top (z := (-5)) hw43.2.2.2 ?_
    exact kI_ret (v := (-5)) hx hb hr hlocks rfl hK hS dX12_law_23 (f46, a47, g48) hP hD ⟨(kb_w kc_m5 (by decide) (by decide)), hI, hE, ((eE49.1 13 rfl).trans (show f_42 13 = 0 from by rw [← ef_42]; rfl)), hk0, hk1⟩
