/-! reading: the tokens read, N of them -/
def rC (c : Nat → Int32) (N i : Nat) : Int32 := if i < N then c i else 0
def rS (f : Nat → Int32) (a : Nat → Nat → Int32) (N : Nat) (ob : Bool) : Prop := (f 18).toInt = (N : Int) ∧ N ≤ 400 ∧ a 15 N = 0 ∧ f 10 = (if ob = true then 1 else 0) ∧ f 8 = (if ob = true then 16 else 9) ∧ f 9 = (if ob = true then 22 else 18)
theorem rS_fE {L : List Nat} {f f1 : Nat → Int32} {a : Nat → Nat → Int32} {N : Nat} {ob : Bool} (h : fE L f f1) (q : rS f a N ob) (n : (L.contains 18 || L.contains 10 || L.contains 8 || L.contains 9) = false) : rS f1 a N ob := by
  simp only [Bool.or_eq_false_iff] at n
  exact ⟨by rw [h 18 n.1.1.1]; exact q.1, q.2.1, q.2.2.1, by rw [h 10 n.1.1.2]; exact q.2.2.2.1, by rw [h 8 n.1.2]; exact q.2.2.2.2.1, by rw [h 9 n.2]; exact q.2.2.2.2.2⟩
theorem rC_at {f : Nat → Int32} {a : Nat → Nat → Int32} {N i : Nat} {ob : Bool} {x : Int32} (hS : rS f a N ob) (h : i ≤ N) (e : x.toInt = (i : Int)) : a 15 x.toNatClampNeg = rC (a 15) N i := by
  have e2 : x.toNatClampNeg = i := by unfold Int32.toNatClampNeg; omega
  unfold rC
  rw [e2]
  by_cases q : i < N
  · rw [if_pos q]
  · have : i = N := by omega
    rw [if_neg q, this]; exact hS.2.2.1
theorem rC_lt {c : Nat → Int32} {N i : Nat} (h : ¬ rC c N i = 0) : i < N := by
  unfold rC at h
  by_cases q : i < N
  · exact q
  · rw [if_neg q] at h; exact absurd rfl h
theorem kb_tok {f : Nat → Int32} {a : Nat → Nat → Int32} {N i : Nat} {ob : Bool} {x : Int32} (hS : rS f a N ob) (h : i ≤ N) (e : x.toInt = (i : Int)) : kb 0 x 400 := by
  have := hS.2.1; unfold kb; omega
theorem kb_tok1 {f : Nat → Int32} {a : Nat → Nat → Int32} {N i : Nat} {ob : Bool} {x : Int32} (hS : rS f a N ob) (h : i < N) (e : x.toInt = (i : Int)) : kb 0 x 399 := by
  have := hS.2.1; unfold kb; omega
theorem kb_nm1 {x : Int32} {l h : Int} (b : kb l x h) (q : 0 ≤ l) : ¬ x = -1 := by
  intro e
  have := b.1
  have e0 : (-1 : Int32).toInt = -1 := by decide +kernel
  rw [e] at this; omega
section GI
variable {o : Bool} {c : Nat → Int32} {d i j m e : Nat}
theorem gi_0 (h1 : gG o c d 1 i m) (h2 : gG o c d 6 m j) : gG o c d 0 i j := gG_in (L := [(d, 1, i, m), (d, 6, m, j)]) (by simp; exact ⟨h1, h2⟩) ⟨m, by simp, by simp⟩
theorem gi_6n (h : ¬ (c i = 143 ∨ c i = 145)) : gG o c d 6 i i := gG_in (L := []) (by simp) (Or.inl ⟨h, rfl⟩)
theorem gi_6y (h : c i = 143 ∨ c i = 145) (h1 : gG o c d 1 (i + 1) m) (h2 : gG o c d 6 m j) : gG o c d 6 i j := gG_in (L := [(d, 1, i + 1, m), (d, 6, m, j)]) (by simp; exact ⟨h1, h2⟩) (Or.inr ⟨h, m, by simp, by simp⟩)
theorem gi_1 (h1 : gG o c d 2 i m) (h2 : gG o c d 7 m j) : gG o c d 1 i j := gG_in (L := [(d, 2, i, m), (d, 7, m, j)]) (by simp; exact ⟨h1, h2⟩) ⟨m, by simp, by simp⟩
theorem gi_7n (h : ¬ (c i = 142 ∨ c i = 147 ∨ c i = 137)) : gG o c d 7 i i := gG_in (L := []) (by simp) (Or.inl ⟨h, rfl⟩)
theorem gi_7y (h : c i = 142 ∨ c i = 147 ∨ c i = 137) (h1 : gG o c d 2 (i + 1) m) (h2 : gG o c d 7 m j) : gG o c d 7 i j := gG_in (L := [(d, 2, i + 1, m), (d, 7, m, j)]) (by simp; exact ⟨h1, h2⟩) (Or.inr ⟨h, m, by simp, by simp⟩)
theorem gi_2a (h : c i = 191) (hd : d = e + 1) (h1 : gG o c e 0 (i + 1) m) (h2 : c m = 193) (ej : j = m + 1) : gG o c d 2 i j := gG_in (L := [(e, 0, i + 1, m)]) (by simp; exact h1) (Or.inl ⟨h, e, m, hd, by simp, h2, ej⟩)
theorem gi_2n (h : c i = 50) (ej : j = i + 1) : gG o c d 2 i j := gG_in (L := []) (by simp) (Or.inr (Or.inl ⟨h, ej⟩))
theorem gi_2l (ho : o = false) (h : 9 ≤ (c i).toInt ∧ (c i).toInt ≤ 18) (ej : j = i + 1) : gG o c d 2 i j := gG_in (L := []) (by simp) (Or.inr (Or.inr (Or.inl ⟨ho, h.1, h.2, ej⟩)))
theorem gi_2o (ho : o = true) (h : 16 ≤ (c i).toInt ∧ (c i).toInt ≤ 22) (hn : ¬ (c i = 16 ∨ c i = 17 ∨ c i = 22)) (ej : j = i + 1) : gG o c d 2 i j := gG_in (L := []) (by simp) (Or.inr (Or.inr (Or.inr (Or.inl ⟨ho, h.1, h.2, hn, ej⟩))))
theorem gi_2p (ho : o = true) (h : c i = 16 ∨ c i = 17 ∨ c i = 22) (em : m = i + 1) (h2 : c m = 50) (ej : j = m + 1) : gG o c d 2 i j := gG_in (L := []) (by simp) (Or.inr (Or.inr (Or.inr (Or.inr ⟨ho, h, em ▸ h2, by omega⟩))))
theorem gi_3 (h1 : gG o c d 4 i m) (h2 : gG o c d 8 m j) : gG o c d 3 i j := gG_in (L := [(d, 4, i, m), (d, 8, m, j)]) (by simp; exact ⟨h1, h2⟩) ⟨m, by simp, by simp⟩
theorem gi_8n (h : ¬ c i = 6) : gG o c d 8 i i := gG_in (L := []) (by simp) (Or.inl ⟨h, rfl⟩)
theorem gi_8y (h : c i = 6) (h1 : gG o c d 4 (i + 1) m) (h2 : gG o c d 8 m j) : gG o c d 8 i j := gG_in (L := [(d, 4, i + 1, m), (d, 8, m, j)]) (by simp; exact ⟨h1, h2⟩) (Or.inr ⟨h, m, by simp, by simp⟩)
theorem gi_4 (h1 : gG o c d 5 i m) (h2 : gG o c d 9 m j) : gG o c d 4 i j := gG_in (L := [(d, 5, i, m), (d, 9, m, j)]) (by simp; exact ⟨h1, h2⟩) ⟨m, by simp, by simp⟩
theorem gi_9n (h : ¬ c i = 7) : gG o c d 9 i i := gG_in (L := []) (by simp) (Or.inl ⟨h, rfl⟩)
theorem gi_9y (h : c i = 7) (h1 : gG o c d 5 (i + 1) m) (h2 : gG o c d 9 m j) : gG o c d 9 i j := gG_in (L := [(d, 5, i + 1, m), (d, 9, m, j)]) (by simp; exact ⟨h1, h2⟩) (Or.inr ⟨h, m, by simp, by simp⟩)
theorem gi_5y (h : c i = 8) (h1 : gG o c d 5 (i + 1) j) : gG o c d 5 i j := gG_in (L := [(d, 5, i + 1, j)]) (by simp; exact h1) (Or.inl ⟨h, by simp⟩)
theorem gi_5n (h : ¬ c i = 8) (h1 : gG o c d 10 i j) : gG o c d 5 i j := gG_in (L := [(d, 10, i, j)]) (by simp; exact h1) (Or.inr ⟨h, by simp⟩)
theorem gi_10a (h : c i = 140) (hd : d = e + 1) (h1 : gG o c e 3 (i + 1) m) (h2 : c m = 141) (ej : j = m + 1) : gG o c d 10 i j := gG_in (L := [(e, 3, i + 1, m)]) (by simp; exact h1) (Or.inl ⟨h, e, m, hd, by simp, h2, ej⟩)
theorem gi_10b (h : ¬ c i = 140) (h1 : gG o c d 0 i m) (h2 : c m = 160 ∨ c m = 162 ∨ c m = 161) (em : e = m + 1) (h3 : gG o c d 0 e j) : gG o c d 10 i j := gG_in (L := [(d, 0, i, m), (d, 0, m + 1, j)]) (by simp; exact ⟨h1, em ▸ h3⟩) (Or.inr ⟨h, m, by simp, h2, by simp⟩)
theorem gi_12n (h : ¬ c i = 5) : gG o c d 12 i i := gG_in (L := []) (by simp) (Or.inr ⟨h, rfl⟩)
theorem gi_12y (h : c i = 5) (h1 : gG o c d 3 (i + 1) j) : gG o c d 12 i j := gG_in (L := [(d, 3, i + 1, j)]) (by simp; exact h1) (Or.inl ⟨h, by simp⟩)
theorem gi_11a (h : c i = 1 ∨ c i = 2 ∨ c i = 3) (h1 : gG o c d 0 (i + 1) m) (h2 : gG o c d 12 m j) : gG o c d 11 i j := gG_in (L := [(d, 0, i + 1, m), (d, 12, m, j)]) (by simp; exact ⟨h1, h2⟩) (Or.inl ⟨h, m, by simp, by simp⟩)
theorem gi_11b (h : c i = 4) (em : m = i + 1) (h2 : gG o c d 12 m j) : gG o c d 11 i j := gG_in (L := [(d, 12, i + 1, j)]) (by simp; exact em ▸ h2) (Or.inr ⟨h, by simp⟩)
theorem gi_14n (h : ¬ c i = 28) (h1 : gG o c d 12 i j) : gG o c d 14 i j := gG_in (L := [(d, 12, i, j)]) (by simp; exact h1) (Or.inr ⟨h, by simp⟩)
theorem gi_14y (h : c i = 28) (h2 : c (i + 1) = 50) (em : m = i + 1 + 1) (h1 : gG o c d 12 m j) : gG o c d 14 i j := gG_in (L := [(d, 12, i + 2, j)]) (by simp; exact em ▸ h1) (Or.inl ⟨h, h2, by simp⟩)
theorem gi_13a {m' m2 : Nat} (h : c i = 23) (h1 : gG o c d 0 (i + 1) m) (h2 : c m = 24) (em : m2 = m + 1) (h3 : gG o c d 0 m2 m') (h4 : gG o c d 14 m' j) : gG o c d 13 i j := gG_in (L := [(d, 0, i + 1, m), (d, 0, m + 1, m'), (d, 14, m', j)]) (by simp; exact ⟨h1, em ▸ h3, h4⟩) (Or.inl ⟨h, m, m', by simp, h2, by simp, by simp⟩)
theorem gi_13b (h : c i = 25 ∨ c i = 26) (h1 : gG o c d 0 (i + 1) m) (h4 : gG o c d 14 m j) : gG o c d 13 i j := gG_in (L := [(d, 0, i + 1, m), (d, 14, m, j)]) (by simp; exact ⟨h1, h4⟩) (Or.inr (Or.inl ⟨h, m, by simp, by simp⟩))
theorem gi_13c (h : c i = 27) (em : m = i + 1) (h4 : gG o c d 14 m j) : gG o c d 13 i j := gG_in (L := [(d, 14, i + 1, j)]) (by simp; exact em ▸ h4) (Or.inr (Or.inr ⟨h, by simp⟩))
theorem gi_15 (h1 : gG o c d (if o = true then 13 else 11) i m) (h2 : gG o c d 16 m j) : gG o c d 15 i j := by
  refine gG_in (L := [(d, (if o = true then 13 else 11), i, m), (d, 16, m, j)]) (fun q hq => ?_) ⟨m, by simp, by simp⟩
  rcases List.mem_cons.mp hq with e | e
  · rw [e]; exact h1
  · rcases List.mem_cons.mp e with e | e
    · rw [e]; exact h2
    · cases e
theorem gi_16n (h : ¬ c i = 159) : gG o c d 16 i i := gG_in (L := []) (by simp) (Or.inr ⟨h, rfl⟩)
theorem gi_16y (h : c i = 159) (h1 : gG o c d 15 (i + 1) j) : gG o c d 16 i j := gG_in (L := [(d, 15, i + 1, j)]) (by simp; exact h1) (Or.inl ⟨h, by simp⟩)
end GI
theorem dX12_fine_0 : decode cX12_fine 0 = .ok (.aload_n 0, 1) := by decide +kernel
theorem dX12_fine_1 : decode cX12_fine 1 = .ok (.getfield 158, 3) := by decide +kernel
theorem dX12_fine_4 : decode cX12_fine 4 = .ok (.iconst (-1), 1) := by decide +kernel
theorem dX12_fine_5 : decode cX12_fine 5 = .ok (.if_icmp .ne 7, 3) := by decide +kernel
theorem dX12_fine_8 : decode cX12_fine 8 = .ok (.iconst 1, 1) := by decide +kernel
theorem dX12_fine_9 : decode cX12_fine 9 = .ok (.goto 4, 3) := by decide +kernel
theorem dX12_fine_12 : decode cX12_fine 12 = .ok (.iconst 0, 1) := by decide +kernel
theorem dX12_fine_13 : decode cX12_fine 13 = .ok (.ireturn, 1) := by decide +kernel
theorem dX12_faults_0 : decode cX12_faults 0 = .ok (.aload_n 0, 1) := by decide +kernel
theorem dX12_faults_1 : decode cX12_faults 1 = .ok (.invokevirtual 161, 3) := by decide +kernel
theorem dX12_faults_4 : decode cX12_faults 4 = .ok (.ifCond .eq 16, 3) := by decide +kernel
theorem dX12_faults_7 : decode cX12_faults 7 = .ok (.aload_n 0, 1) := by decide +kernel
theorem dX12_faults_8 : decode cX12_faults 8 = .ok (.aload_n 0, 1) := by decide +kernel
theorem dX12_faults_9 : decode cX12_faults 9 = .ok (.getfield 56, 3) := by decide +kernel
theorem dX12_faults_12 : decode cX12_faults 12 = .ok (.aload_n 0, 1) := by decide +kernel
theorem dX12_faults_13 : decode cX12_faults 13 = .ok (.getfield 165, 3) := by decide +kernel
theorem dX12_faults_16 : decode cX12_faults 16 = .ok (.iaload, 1) := by decide +kernel
theorem dX12_faults_17 : decode cX12_faults 17 = .ok (.putfield 158, 3) := by decide +kernel
theorem dX12_faults_20 : decode cX12_faults 20 = .ok (.return_, 1) := by decide +kernel
theorem dX12_takes0_0 : decode cX12_takes0 0 = .ok (.aload_n 0, 1) := by decide +kernel
theorem dX12_takes0_1 : decode cX12_takes0 1 = .ok (.invokevirtual 161, 3) := by decide +kernel
theorem dX12_takes0_4 : decode cX12_takes0 4 = .ok (.ifCond .eq 20, 3) := by decide +kernel
theorem dX12_takes0_7 : decode cX12_takes0 7 = .ok (.aload_n 0, 1) := by decide +kernel
theorem dX12_takes0_8 : decode cX12_takes0 8 = .ok (.getfield 50, 3) := by decide +kernel
theorem dX12_takes0_11 : decode cX12_takes0 11 = .ok (.aload_n 0, 1) := by decide +kernel
theorem dX12_takes0_12 : decode cX12_takes0 12 = .ok (.getfield 165, 3) := by decide +kernel
theorem dX12_takes0_15 : decode cX12_takes0 15 = .ok (.iaload, 1) := by decide +kernel
theorem dX12_takes0_16 : decode cX12_takes0 16 = .ok (.iload_n 1, 1) := by decide +kernel
theorem dX12_takes0_17 : decode cX12_takes0 17 = .ok (.if_icmp .ne 7, 3) := by decide +kernel
theorem dX12_takes0_20 : decode cX12_takes0 20 = .ok (.iconst 1, 1) := by decide +kernel
theorem dX12_takes0_21 : decode cX12_takes0 21 = .ok (.goto 4, 3) := by decide +kernel
theorem dX12_takes0_24 : decode cX12_takes0 24 = .ok (.iconst 0, 1) := by decide +kernel
theorem dX12_takes0_25 : decode cX12_takes0 25 = .ok (.istore_n 2, 1) := by decide +kernel
theorem dX12_takes0_26 : decode cX12_takes0 26 = .ok (.iload_n 2, 1) := by decide +kernel
theorem dX12_takes0_27 : decode cX12_takes0 27 = .ok (.ifCond .eq 13, 3) := by decide +kernel
theorem dX12_takes0_30 : decode cX12_takes0 30 = .ok (.aload_n 0, 1) := by decide +kernel
theorem dX12_takes0_31 : decode cX12_takes0 31 = .ok (.dup, 1) := by decide +kernel
theorem dX12_takes0_32 : decode cX12_takes0 32 = .ok (.getfield 165, 3) := by decide +kernel
theorem dX12_takes0_35 : decode cX12_takes0 35 = .ok (.iconst 1, 1) := by decide +kernel
theorem dX12_takes0_36 : decode cX12_takes0 36 = .ok (.iadd, 1) := by decide +kernel
theorem dX12_takes0_37 : decode cX12_takes0 37 = .ok (.putfield 165, 3) := by decide +kernel
theorem dX12_takes0_40 : decode cX12_takes0 40 = .ok (.iload_n 2, 1) := by decide +kernel
theorem dX12_takes0_41 : decode cX12_takes0 41 = .ok (.ireturn, 1) := by decide +kernel
theorem dX12_must_0 : decode cX12_must 0 = .ok (.aload_n 0, 1) := by decide +kernel
theorem dX12_must_1 : decode cX12_must 1 = .ok (.iload_n 1, 1) := by decide +kernel
theorem dX12_must_2 : decode cX12_must 2 = .ok (.invokevirtual 168, 3) := by decide +kernel
theorem dX12_must_5 : decode cX12_must 5 = .ok (.ifCond .ne 7, 3) := by decide +kernel
theorem dX12_must_8 : decode cX12_must 8 = .ok (.aload_n 0, 1) := by decide +kernel
theorem dX12_must_9 : decode cX12_must 9 = .ok (.invokevirtual 171, 3) := by decide +kernel
theorem dX12_must_12 : decode cX12_must 12 = .ok (.return_, 1) := by decide +kernel
theorem dX12_leaf_0 : decode cX12_leaf 0 = .ok (.aload_n 0, 1) := by decide +kernel
theorem dX12_leaf_1 : decode cX12_leaf 1 = .ok (.getfield 174, 3) := by decide +kernel
theorem dX12_leaf_4 : decode cX12_leaf 4 = .ok (.bipush 50, 2) := by decide +kernel
theorem dX12_leaf_6 : decode cX12_leaf 6 = .ok (.if_icmp .ne 7, 3) := by decide +kernel
theorem dX12_leaf_9 : decode cX12_leaf 9 = .ok (.aload_n 0, 1) := by decide +kernel
theorem dX12_leaf_10 : decode cX12_leaf 10 = .ok (.invokevirtual 171, 3) := by decide +kernel
theorem dX12_leaf_13 : decode cX12_leaf 13 = .ok (.aload_n 0, 1) := by decide +kernel
theorem dX12_leaf_14 : decode cX12_leaf 14 = .ok (.dup, 1) := by decide +kernel
theorem dX12_leaf_15 : decode cX12_leaf 15 = .ok (.getfield 174, 3) := by decide +kernel
theorem dX12_leaf_18 : decode cX12_leaf 18 = .ok (.iconst 1, 1) := by decide +kernel
theorem dX12_leaf_19 : decode cX12_leaf 19 = .ok (.iadd, 1) := by decide +kernel
theorem dX12_leaf_20 : decode cX12_leaf 20 = .ok (.putfield 174, 3) := by decide +kernel
theorem dX12_leaf_23 : decode cX12_leaf 23 = .ok (.aload_n 0, 1) := by decide +kernel
theorem dX12_leaf_24 : decode cX12_leaf 24 = .ok (.invokevirtual 161, 3) := by decide +kernel
theorem dX12_leaf_27 : decode cX12_leaf 27 = .ok (.ifCond .eq 13, 3) := by decide +kernel
theorem dX12_leaf_30 : decode cX12_leaf 30 = .ok (.aload_n 0, 1) := by decide +kernel
theorem dX12_leaf_31 : decode cX12_leaf 31 = .ok (.dup, 1) := by decide +kernel
theorem dX12_leaf_32 : decode cX12_leaf 32 = .ok (.getfield 165, 3) := by decide +kernel
theorem dX12_leaf_35 : decode cX12_leaf 35 = .ok (.iconst 1, 1) := by decide +kernel
theorem dX12_leaf_36 : decode cX12_leaf 36 = .ok (.iadd, 1) := by decide +kernel
theorem dX12_leaf_37 : decode cX12_leaf 37 = .ok (.putfield 165, 3) := by decide +kernel
theorem dX12_leaf_40 : decode cX12_leaf 40 = .ok (.return_, 1) := by decide +kernel
theorem dX12_mustNumber_0 : decode cX12_mustNumber 0 = .ok (.aload_n 0, 1) := by decide +kernel
theorem dX12_mustNumber_1 : decode cX12_mustNumber 1 = .ok (.invokevirtual 161, 3) := by decide +kernel
theorem dX12_mustNumber_4 : decode cX12_mustNumber 4 = .ok (.ifCond .eq 38, 3) := by decide +kernel
theorem dX12_mustNumber_7 : decode cX12_mustNumber 7 = .ok (.aload_n 0, 1) := by decide +kernel
theorem dX12_mustNumber_8 : decode cX12_mustNumber 8 = .ok (.getfield 50, 3) := by decide +kernel
theorem dX12_mustNumber_11 : decode cX12_mustNumber 11 = .ok (.aload_n 0, 1) := by decide +kernel
theorem dX12_mustNumber_12 : decode cX12_mustNumber 12 = .ok (.getfield 165, 3) := by decide +kernel
theorem dX12_mustNumber_15 : decode cX12_mustNumber 15 = .ok (.iaload, 1) := by decide +kernel
theorem dX12_mustNumber_16 : decode cX12_mustNumber 16 = .ok (.bipush 50, 2) := by decide +kernel
theorem dX12_mustNumber_18 : decode cX12_mustNumber 18 = .ok (.if_icmp .ne 20, 3) := by decide +kernel
theorem dX12_mustNumber_21 : decode cX12_mustNumber 21 = .ok (.aload_n 0, 1) := by decide +kernel
theorem dX12_mustNumber_22 : decode cX12_mustNumber 22 = .ok (.getfield 53, 3) := by decide +kernel
theorem dX12_mustNumber_25 : decode cX12_mustNumber 25 = .ok (.aload_n 0, 1) := by decide +kernel
theorem dX12_mustNumber_26 : decode cX12_mustNumber 26 = .ok (.getfield 165, 3) := by decide +kernel
theorem dX12_mustNumber_29 : decode cX12_mustNumber 29 = .ok (.iaload, 1) := by decide +kernel
theorem dX12_mustNumber_30 : decode cX12_mustNumber 30 = .ok (.iload_n 1, 1) := by decide +kernel
theorem dX12_mustNumber_31 : decode cX12_mustNumber 31 = .ok (.iload_n 2, 1) := by decide +kernel
theorem dX12_mustNumber_32 : decode cX12_mustNumber 32 = .ok (.invokestatic 96, 3) := by decide +kernel
theorem dX12_mustNumber_35 : decode cX12_mustNumber 35 = .ok (.ifCond .ne 7, 3) := by decide +kernel
theorem dX12_mustNumber_38 : decode cX12_mustNumber 38 = .ok (.aload_n 0, 1) := by decide +kernel
theorem dX12_mustNumber_39 : decode cX12_mustNumber 39 = .ok (.invokevirtual 171, 3) := by decide +kernel
theorem dX12_mustNumber_42 : decode cX12_mustNumber 42 = .ok (.aload_n 0, 1) := by decide +kernel
theorem dX12_mustNumber_43 : decode cX12_mustNumber 43 = .ok (.invokevirtual 161, 3) := by decide +kernel
theorem dX12_mustNumber_46 : decode cX12_mustNumber 46 = .ok (.ifCond .eq 13, 3) := by decide +kernel
theorem dX12_mustNumber_49 : decode cX12_mustNumber 49 = .ok (.aload_n 0, 1) := by decide +kernel
theorem dX12_mustNumber_50 : decode cX12_mustNumber 50 = .ok (.dup, 1) := by decide +kernel
theorem dX12_mustNumber_51 : decode cX12_mustNumber 51 = .ok (.getfield 165, 3) := by decide +kernel
theorem dX12_mustNumber_54 : decode cX12_mustNumber 54 = .ok (.iconst 1, 1) := by decide +kernel
theorem dX12_mustNumber_55 : decode cX12_mustNumber 55 = .ok (.iadd, 1) := by decide +kernel
theorem dX12_mustNumber_56 : decode cX12_mustNumber 56 = .ok (.putfield 165, 3) := by decide +kernel
theorem dX12_mustNumber_59 : decode cX12_mustNumber 59 = .ok (.return_, 1) := by decide +kernel
theorem wt5_181 : Cond.fieldLink RX12 158 "SunriseRoofModel" "bad" "I" ∈ kG := kt5 181 rfl rfl
theorem wt6_204 : Cond.methodLink RX12 161 yX12_fine ∈ kG := kt6 204 rfl rfl
theorem wt6_206 : Cond.instanceMethod yX12_fine ∈ kG := kt6 206 rfl rfl
theorem wp4_7 : Cond.selects RX12 yX12_fine yX12_fine ∈ kG := kp4 7 rfl rfl
theorem wt6_207 : Cond.code yX12_fine cX12_fine 1 (some .boolean) ∈ kG := kt6 207 rfl rfl
theorem wt5_179 : Cond.fieldLink RX12 165 "SunriseRoofModel" "token" "I" ∈ kG := kt5 179 rfl rfl
theorem wt6_200 : Cond.methodLink RX12 168 yX12_takes0 ∈ kG := kt6 200 rfl rfl
theorem wt6_202 : Cond.instanceMethod yX12_takes0 ∈ kG := kt6 202 rfl rfl
theorem wp4_6 : Cond.selects RX12 yX12_takes0 yX12_takes0 ∈ kG := kp4 6 rfl rfl
theorem wt6_203 : Cond.code yX12_takes0 cX12_takes0 3 (some .boolean) ∈ kG := kt6 203 rfl rfl
theorem wt6_223 : Cond.methodLink RX12 171 yX12_faults ∈ kG := kt6 223 rfl rfl
theorem wt6_225 : Cond.instanceMethod yX12_faults ∈ kG := kt6 225 rfl rfl
theorem wp4_11 : Cond.selects RX12 yX12_faults yX12_faults ∈ kG := kp4 11 rfl rfl
theorem wt6_226 : Cond.code yX12_faults cX12_faults 1 none ∈ kG := kt6 226 rfl rfl
theorem wt5_180 : Cond.fieldLink RX12 174 "SunriseRoofModel" "leaves" "I" ∈ kG := kt5 180 rfl rfl
set_option maxHeartbeats 4000000 in
set_option maxRecDepth 100000 in
theorem m_fine  (l : Launch) {D : va_G} {K : Nat → ClassId} (o : Nat) (r : Nat → Nat) (f : Nat → Int32) (a : Nat → Nat → Int32) (g : Nat → Int64) (hI : mI f a)     : kI l yX12_fine (Cond.code yX12_fine cX12_fine 1 (some .boolean) :: kG) (rmD 1 0 0) D (tysK K) [.ref o] (mW K o r f a g) (fun v (_ : Unit) => kb 0 v 1 ∧ ((v = 1 ∧ f 21 = -1) ∨ (v = 0 ∧ ¬ f 21 = -1))) (fun _ => mW K o r f a g) 0 0 := by
  refine kI.of (cc := cX12_fine) (maxL := 1) (ret := (some .boolean)) (by decide) rfl (Nat.le_of_ble_eq_true rfl) ?_
  intro p e s m below meth c A hx hb hr hml hown hts hlocks hnm hK hP hD hS hA ls hl
  have hg : ∀ w ∈ kG, w.before _ s = true := fun w h => hts w (List.mem_cons_of_mem _ h)
  have hown : s.vm.findClass RX12 = some m.cls := hown
  have hl : lv_has ls 1 [(0, .ref o)] := hl
  refine lv_aload_n hx hb dX12_fine_0 rfl (lv_at hl 0 rfl) ?_
  refine va_get (D := D) (ci := 12) (v := .int (f 21)) (C := RX12) (T := TX12) (N := 48) hx hb hg inC12 hown hK hP 0 rfl rfl 21 (by decide) (hg _ wt5_181) (fun _ h9 => h9) rfl dX12_fine_1 ?_
  refine lv_topi (fun t1 et1 => ?_)
  refine lv_iconst (v := (-1)) hx hb dX12_fine_4 (by decide) ?_
  refine lv_icmp_ne (tgt := 12) hx hb dX12_fine_5 (by decide) (fun c2 => ?_) (fun c2 => ?_)
  · refine lv_iconst (v := 0) hx hb dX12_fine_12 (by decide) ?_
    exact kI_ret (v := 0) hx hb hr hlocks (by decide +kernel) hK hS dX12_fine_13 () hP hD ⟨(kb_w kc_0 (by decide) (by decide)), (Or.inr ⟨rfl, (fun q => c2 ((et1.symm).symm.trans q))⟩)⟩
  · have b3 : kb (-1) t1 (-1) := kb_eq c2 kc_m1
    refine lv_iconst (v := 1) hx hb dX12_fine_8 (by decide) ?_
    refine lv_goto (tgt := 13) hx hb dX12_fine_9 (by decide) ?_
    exact kI_ret (v := 1) hx hb hr hlocks (by decide +kernel) hK hS dX12_fine_13 () hP hD ⟨(kb_w kc_1 (by decide) (by decide)), (Or.inl ⟨rfl, (et1.symm).trans c2⟩)⟩
set_option maxHeartbeats 4000000 in
set_option maxRecDepth 100000 in
theorem m_faults  (l : Launch) {D : va_G} {K : Nat → ClassId} (o : Nat) (r : Nat → Nat) (f : Nat → Int32) (a : Nat → Nat → Int32) (g : Nat → Int64) (hI : mI f a)   (N i : Nat) (ob : Bool) (hp0 : rS f a N ob) (hp1 : (f 19).toInt = (i : Int)) (hp2 : i ≤ N) : kV l yX12_faults (Cond.code yX12_faults cX12_faults 1 none :: kG) (rmD 2 0 0) D (tysK K) [.ref o] (mW K o r f a g) (fun (u : Nat → Int32) => mI u a ∧ fE [21] f u ∧ ¬ u 21 = -1) (fun u => mW K o r u a g) 0 0 := by
  refine kV.of (cc := cX12_faults) (maxL := 1) (ret := none) (by decide) rfl (Nat.le_of_ble_eq_true rfl) ?_
  intro p e s m below meth c A hx hb hr hml hown hts hlocks hnm hK hP hD hS hA ls hl
  have hE : fE [21] f f := fE_rf
  have hg : ∀ w ∈ kG, w.before _ s = true := fun w h => hts w (List.mem_cons_of_mem _ h)
  have hown : s.vm.findClass RX12 = some m.cls := hown
  have hl : lv_has ls 1 [(0, .ref o)] := hl
  obtain ⟨c19, ec19⟩ : ∃ z : Int32, z = f 19 := ⟨_, rfl⟩
  have hg0 : c19.toInt = (i : Int) := by rw [ec19]; exact hp1
  have b1 : kb 0 c19 400 := kb_tok hp0 hp2 hg0
  refine lv_aload_n hx hb dX12_faults_0 rfl (lv_at hl 0 rfl) ?_
  refine kI.callV (As := []) (rest := []) ⟨hx, hb, hml, hown, hg⟩ (m_fine l o r f a g hI   ) (cwV 0 hg (kgV wt6_204 wt6_206 wp4_7 wt1_14 wt6_207) rfl rfl rfl (by decide +kernel) ⟨by decide, by decide⟩) hK hP hD hS hA mIs [] rfl (wr := []) rfl rfl rfl (fun i h => by cases h) 0 12 rfl rfl rfl hl.1 rfl (Nat.le_of_ble_eq_true rfl) dX12_faults_1 ⟨Nat.le_refl _, Nat.le_refl _⟩ (fun v3 u4 H locs hw2 hP hD hS => ?_)
  have hP : va_P D vwCl (mW K o r f a g) H := hP
  have hD : va_D A (mW K o r f a g) := hD
  rcases hw2.2 with hf5 | hf5
  · refine k_top (z := 1) hf5.1 ?_
    refine lv_if_eq (tgt := 20) hx hb dX12_faults_4 (by decide) (fun c6 => ?_) (fun c6 => ?_)
    · exact kb_dj c6 kc_1 kc_0 (by decide)
    · refine lv_aload_n hx hb dX12_faults_7 rfl (lv_at hl 0 rfl) ?_
      refine lv_aload_n hx hb dX12_faults_8 rfl (lv_at hl 0 rfl) ?_
      refine va_get (D := D) (ci := 12) (v := .ref (r 17)) (C := RX12) (T := TX12) (N := 48) hx hb hg inC12 hown hK hP 0 rfl rfl 17 (by decide) (hg _ wt5_177) (fun _ h9 => h9) rfl dX12_faults_9 ?_
      refine lv_aload_n hx hb dX12_faults_12 rfl (lv_at hl 0 rfl) ?_
      refine va_get (D := D) (ci := 12) (v := .int (f 19)) (C := RX12) (T := TX12) (N := 48) hx hb hg inC12 hown hK hP 0 rfl rfl 19 (by decide) (hg _ wt5_179) (fun _ h9 => h9) rfl dX12_faults_13 ?_
      refine k_top (z := c19) ec19.symm ?_
      refine va_iald hx hb hK hP 11 0 rfl rfl (kb_in b1 (by decide) (by decide)) dX12_faults_16 ?_
      refine lv_topi (fun t7 et7 => ?_)
      have b8 : kb 0 t7 400 := kb_eq et7 (aI_ld hI.2.1 17 0 401 b1 (by decide) (by decide) (by decide +kernel))
      refine va_put (D := D) (ci := 12) (v := .int t7) (ty := .int) (C := RX12) (T := TX12) (N := 48) hx hb hg inC12 tyX12 tyX12_ok nmX12 hown hK hP hD hS 0 rfl rfl 21 (by decide) (hg _ wt5_181) (fun _ h9 => h9) rfl (by decide +kernel) rfl rfl (Nat.le_of_ble_eq_true rfl) dX12_faults_17 (fun H locs hP hD hS => ?_)
      have hP : va_P D vwCl (mW K o r (upd f 21 t7) a g) H := hP
      have hD : va_D A (mW K o r (upd f 21 t7) a g) := hD
      refine k_gen (P := fun z => va_P D vwCl (mW K o r z a g) H ∧ va_D A (mW K o r z a g) ∧ (mI z a) ∧ (fE [21] f z)) (upd f 21 t7) ⟨hP, hD, (mI_f hI (fI_st hI.1 21 (kb_any _) (by decide) (by decide))), (fE_f hE (by decide))⟩ (fun f_9 ef_9 hq => ?_)
      obtain ⟨hP, hD, hI, hE⟩ := hq
      exact kV_ret hx hb hr hlocks hK hS dX12_faults_20 f_9 hP hD ⟨hI, hE, (by rw [(show f_9 21 = t7 from by rw [← ef_9]; rfl)]; exact kb_nm1 b8 (by decide))⟩
  · refine k_top (z := 0) hf5.1 ?_
    refine lv_if_eq (tgt := 20) hx hb dX12_faults_4 (by decide) (fun c10 => ?_) (fun c10 => ?_)
    · exact kV_ret hx hb hr hlocks hK hS dX12_faults_20 f hP hD ⟨hI, hE, hf5.2⟩
    · exact kb_nsame c10 kc_0 kc_0
set_option maxHeartbeats 4000000 in
set_option maxRecDepth 100000 in
theorem m_takes0  (l : Launch) {D : va_G} {K : Nat → ClassId} (o : Nat) (r : Nat → Nat) (f : Nat → Int32) (a : Nat → Nat → Int32) (g : Nat → Int64) (hI : mI f a) (x : Int32) (bx : kb 1 x 200) (N i : Nat) (ob : Bool) (hp0 : rS f a N ob) (hp1 : (f 19).toInt = (i : Int)) (hp2 : i ≤ N) : kI l yX12_takes0 (Cond.code yX12_takes0 cX12_takes0 3 (some .boolean) :: kG) (rmD 2 0 0) D (tysK K) [.ref o, .int x] (mW K o r f a g) (fun v (u : Nat → Int32) => kb 0 v 1 ∧ mI u a ∧ fE [19] f u ∧ ((v = 1 ∧ f 21 = -1 ∧ rC (a 15) N i = x ∧ (u 19).toInt = ((i + 1 : Nat) : Int) ∧ i < N) ∨ (v = 0 ∧ (f 21 = -1 → ¬ rC (a 15) N i = x) ∧ (u 19).toInt = (i : Int)))) (fun u => mW K o r u a g) 0 0 := by
  refine kI.of (cc := cX12_takes0) (maxL := 3) (ret := (some .boolean)) (by decide) rfl (Nat.le_of_ble_eq_true rfl) ?_
  intro p e s m below meth c A hx hb hr hml hown hts hlocks hnm hK hP hD hS hA ls hl
  have hE : fE [19] f f := fE_rf
  have hg : ∀ w ∈ kG, w.before _ s = true := fun w h => hts w (List.mem_cons_of_mem _ h)
  have hown : s.vm.findClass RX12 = some m.cls := hown
  have hl : lv_has ls 3 [(0, .ref o), (1, .int x)] := hl
  obtain ⟨c19, ec19⟩ : ∃ z : Int32, z = f 19 := ⟨_, rfl⟩
  have hg0 : c19.toInt = (i : Int) := by rw [ec19]; exact hp1
  have b1 : kb 0 c19 400 := kb_tok hp0 hp2 hg0
  refine lv_aload_n hx hb dX12_takes0_0 rfl (lv_at hl 0 rfl) ?_
  refine kI.callV (As := []) (rest := []) ⟨hx, hb, hml, hown, hg⟩ (m_fine l o r f a g hI   ) (cwV 0 hg (kgV wt6_204 wt6_206 wp4_7 wt1_14 wt6_207) rfl rfl rfl (by decide +kernel) ⟨by decide, by decide⟩) hK hP hD hS hA mIs [] rfl (wr := []) rfl rfl rfl (fun i h => by cases h) 0 12 rfl rfl rfl hl.1 rfl (Nat.le_of_ble_eq_true rfl) dX12_takes0_1 ⟨Nat.le_refl _, Nat.le_refl _⟩ (fun v3 u4 H locs hw2 hP hD hS => ?_)
  have hP : va_P D vwCl (mW K o r f a g) H := hP
  have hD : va_D A (mW K o r f a g) := hD
  rcases hw2.2 with hf5 | hf5
  · refine k_top (z := 1) hf5.1 ?_
    refine lv_if_eq (tgt := 24) hx hb dX12_takes0_4 (by decide) (fun c6 => ?_) (fun c6 => ?_)
    · exact kb_dj c6 kc_1 kc_0 (by decide)
    · refine lv_aload_n hx hb dX12_takes0_7 rfl (lv_at hl 0 rfl) ?_
      refine va_get (D := D) (ci := 12) (v := .ref (r 15)) (C := RX12) (T := TX12) (N := 48) hx hb hg inC12 hown hK hP 0 rfl rfl 15 (by decide) (hg _ wt5_175) (fun _ h9 => h9) rfl dX12_takes0_8 ?_
      refine lv_aload_n hx hb dX12_takes0_11 rfl (lv_at hl 0 rfl) ?_
      refine va_get (D := D) (ci := 12) (v := .int (f 19)) (C := RX12) (T := TX12) (N := 48) hx hb hg inC12 hown hK hP 0 rfl rfl 19 (by decide) (hg _ wt5_179) (fun _ h9 => h9) rfl dX12_takes0_12 ?_
      refine k_top (z := c19) ec19.symm ?_
      refine va_iald hx hb hK hP 9 0 rfl rfl (kb_in b1 (by decide) (by decide)) dX12_takes0_15 ?_
      refine lv_topi (fun t7 et7 => ?_)
      have ht8 : t7 = rC (a 15) N (i) := et7.trans (rC_at (rS_fE hE hp0 (by decide)) hp2 hg0)
      refine lv_iload_n hx hb dX12_takes0_16 rfl (lv_at hl 1 rfl) ?_
      refine lv_icmp_ne (tgt := 24) hx hb dX12_takes0_17 (by decide) (fun c9 => ?_) (fun c9 => ?_)
      · refine lv_iconst (v := 0) hx hb dX12_takes0_24 (by decide) ?_
        refine lv_istore_n (lv' := [(2, .int 0), (0, .ref o), (1, .int x)]) hx hb dX12_takes0_25 rfl hl (by decide) rfl (fun ls hl => ?_)
        refine lv_iload_n hx hb dX12_takes0_26 rfl (lv_at hl 0 rfl) ?_
        refine lv_if_eq (tgt := 40) hx hb dX12_takes0_27 (by decide) (fun c10 => ?_) (fun c10 => ?_)
        · refine lv_iload_n hx hb dX12_takes0_40 rfl (lv_at hl 0 rfl) ?_
          exact kI_ret (v := 0) hx hb hr hlocks (by decide +kernel) hK hS dX12_takes0_41 f hP hD ⟨(kb_w kc_0 (by decide) (by decide)), hI, hE, (Or.inr ⟨rfl, (fun _ q => c9 (ht8.trans q)), (by rw [ec19.symm]; exact hg0)⟩)⟩
        · exact kb_nsame c10 kc_0 kc_0
      · have b11 : kb 1 t7 200 := kb_eq c9 bx
        refine lv_iconst (v := 1) hx hb dX12_takes0_20 (by decide) ?_
        refine lv_goto (tgt := 25) hx hb dX12_takes0_21 (by decide) ?_
        refine lv_istore_n (lv' := [(2, .int 1), (0, .ref o), (1, .int x)]) hx hb dX12_takes0_25 rfl hl (by decide) rfl (fun ls hl => ?_)
        refine lv_iload_n hx hb dX12_takes0_26 rfl (lv_at hl 0 rfl) ?_
        refine lv_if_eq (tgt := 40) hx hb dX12_takes0_27 (by decide) (fun c12 => ?_) (fun c12 => ?_)
        · exact kb_dj c12 kc_1 kc_0 (by decide)
        · have b13 : kb 0 c19 399 := kb_tok1 hp0 (rC_lt (ne_0 (ht8.symm.trans c9) (kb_nz bx (by decide)))) hg0
          refine lv_aload_n hx hb dX12_takes0_30 rfl (lv_at hl 1 rfl) ?_
          refine lv_dup hx hb dX12_takes0_31 rfl ?_
          refine va_get (D := D) (ci := 12) (v := .int (f 19)) (C := RX12) (T := TX12) (N := 48) hx hb hg inC12 hown hK hP 0 rfl rfl 19 (by decide) (hg _ wt5_179) (fun _ h9 => h9) rfl dX12_takes0_32 ?_
          refine k_top (z := c19) ec19.symm ?_
          refine lv_iconst (v := 1) hx hb dX12_takes0_35 (by decide) ?_
          refine lv_iadd hx hb dX12_takes0_36 ?_
          refine lv_topi (fun t14 et14 => ?_)
          have b15 : kb 1 t14 400 := kb_eq et14 (kb_add b13 kc_1 (by decide) (by decide))
          have qt14 : t14.toInt = c19.toInt + 1 := by rw [et14]; exact kt_addc b13 kc_1 (by decide) (by decide)
          have hg16 : t14.toInt = ((i + 1 : Nat) : Int) := by rw [qt14, hg0]; omega
          refine va_put (D := D) (ci := 12) (v := .int t14) (ty := .int) (C := RX12) (T := TX12) (N := 48) hx hb hg inC12 tyX12 tyX12_ok nmX12 hown hK hP hD hS 0 rfl rfl 19 (by decide) (hg _ wt5_179) (fun _ h9 => h9) rfl (by decide +kernel) rfl rfl (Nat.le_of_ble_eq_true rfl) dX12_takes0_37 (fun H locs hP hD hS => ?_)
          have hP : va_P D vwCl (mW K o r (upd f 19 t14) a g) H := hP
          have hD : va_D A (mW K o r (upd f 19 t14) a g) := hD
          refine k_gen (P := fun z => va_P D vwCl (mW K o r z a g) H ∧ va_D A (mW K o r z a g) ∧ (mI z a) ∧ (fE [19] f z)) (upd f 19 t14) ⟨hP, hD, (mI_f hI (fI_st hI.1 19 b15 (by decide) (by decide))), (fE_f hE (by decide))⟩ (fun f_17 ef_17 hq => ?_)
          obtain ⟨hP, hD, hI, hE⟩ := hq
          refine lv_iload_n hx hb dX12_takes0_40 rfl (lv_at hl 0 rfl) ?_
          exact kI_ret (v := 1) hx hb hr hlocks (by decide +kernel) hK hS dX12_takes0_41 f_17 hP hD ⟨(kb_w kc_1 (by decide) (by decide)), hI, hE, (Or.inl ⟨rfl, hf5.2, ht8.symm.trans c9, (by rw [(show f_17 19 = t14 from by rw [← ef_17]; rfl)]; exact hg16), rC_lt (ne_0 (ht8.symm.trans c9) (kb_nz bx (by decide)))⟩)⟩
  · refine k_top (z := 0) hf5.1 ?_
    refine lv_if_eq (tgt := 24) hx hb dX12_takes0_4 (by decide) (fun c18 => ?_) (fun c18 => ?_)
    · refine lv_iconst (v := 0) hx hb dX12_takes0_24 (by decide) ?_
      refine lv_istore_n (lv' := [(2, .int 0), (0, .ref o), (1, .int x)]) hx hb dX12_takes0_25 rfl hl (by decide) rfl (fun ls hl => ?_)
      refine lv_iload_n hx hb dX12_takes0_26 rfl (lv_at hl 0 rfl) ?_
      refine lv_if_eq (tgt := 40) hx hb dX12_takes0_27 (by decide) (fun c19 => ?_) (fun c19 => ?_)
      · refine lv_iload_n hx hb dX12_takes0_40 rfl (lv_at hl 0 rfl) ?_
        exact kI_ret (v := 0) hx hb hr hlocks (by decide +kernel) hK hS dX12_takes0_41 f hP hD ⟨(kb_w kc_0 (by decide) (by decide)), hI, hE, (Or.inr ⟨rfl, (fun q => absurd q hf5.2), (by rw [ec19.symm]; exact hg0)⟩)⟩
      · exact kb_nsame c19 kc_0 kc_0
    · exact kb_nsame c18 kc_0 kc_0
set_option maxHeartbeats 4000000 in
set_option maxRecDepth 100000 in
theorem m_must  (l : Launch) {D : va_G} {K : Nat → ClassId} (o : Nat) (r : Nat → Nat) (f : Nat → Int32) (a : Nat → Nat → Int32) (g : Nat → Int64) (hI : mI f a) (x : Int32) (bx : kb 1 x 200) (N i : Nat) (ob : Bool) (hp0 : rS f a N ob) (hp1 : (f 19).toInt = (i : Int)) (hp2 : i ≤ N) : kV l yX12_must (Cond.code yX12_must cX12_must 2 none :: kG) (rmD 3 0 0) D (tysK K) [.ref o, .int x] (mW K o r f a g) (fun (u : Nat → Int32) => mI u a ∧ fE [19, 20, 21] f u ∧ (∃ i2 : Nat, (u 19).toInt = (i2 : Int) ∧ i ≤ i2 ∧ i2 ≤ N ∧ (u 21 = -1 → f 21 = -1 ∧ (rC (a 15) N i = x ∧ i2 = i + 1)))) (fun u => mW K o r u a g) 0 0 := by
  refine kV.of (cc := cX12_must) (maxL := 2) (ret := none) (by decide) rfl (Nat.le_of_ble_eq_true rfl) ?_
  intro p e s m below meth c A hx hb hr hml hown hts hlocks hnm hK hP hD hS hA ls hl
  have hE : fE [19, 20, 21] f f := fE_rf
  have hg : ∀ w ∈ kG, w.before _ s = true := fun w h => hts w (List.mem_cons_of_mem _ h)
  have hown : s.vm.findClass RX12 = some m.cls := hown
  have hl : lv_has ls 2 [(0, .ref o), (1, .int x)] := hl
  obtain ⟨c19, ec19⟩ : ∃ z : Int32, z = f 19 := ⟨_, rfl⟩
  have hg0 : c19.toInt = (i : Int) := by rw [ec19]; exact hp1
  have b1 : kb 0 c19 400 := kb_tok hp0 hp2 hg0
  refine lv_aload_n hx hb dX12_must_0 rfl (lv_at hl 0 rfl) ?_
  refine lv_iload_n hx hb dX12_must_1 rfl (lv_at hl 1 rfl) ?_
  refine kI.callV (As := [.int x]) (rest := []) ⟨hx, hb, hml, hown, hg⟩ (m_takes0 l o r f a g hI x bx N (i) ob (rS_fE hE hp0 (by decide)) (by rw [ec19.symm]; exact hg0) hp2) (cwV 1 hg (kgV wt6_200 wt6_202 wp4_6 wt1_14 wt6_203) rfl rfl rfl (by decide +kernel) ⟨by decide, by decide⟩) hK hP hD hS hA mIs [] rfl (wr := []) rfl rfl rfl (fun i h => by cases h) 0 12 rfl rfl rfl hl.1 rfl (Nat.le_of_ble_eq_true rfl) dX12_must_2 ⟨Nat.le_refl _, Nat.le_refl _⟩ (fun v3 u4 H locs hw2 hP hD hS => ?_)
  have hP : va_P D vwCl (mW K o r u4 a g) H := hP
  have hD : va_D A (mW K o r u4 a g) := hD
  have hI : mI u4 a := hw2.2.1
  have eE5 : fE [19] f u4 := hw2.2.2.1
  have hE : fE [19, 20, 21] f u4 := fE_tr hE (fE_w (by decide) eE5)
  rcases hw2.2.2.2 with ⟨hvk6, hbk6, htk6, hpk6, hlk6⟩ | ⟨hvk6, hnk6, hpk6⟩
  · refine k_top (z := 1) hvk6 ?_
    obtain ⟨gv7, egv7⟩ : ∃ z : Int32, z = u4 19 := ⟨_, rfl⟩
    have hg8 : gv7.toInt = ((i + 1 : Nat) : Int) := by rw [egv7]; exact hpk6
    have b9 : kb 0 gv7 400 := kb_tok (rS_fE hE hp0 (by decide)) hlk6 hg8
    refine lv_if_ne (tgt := 12) hx hb dX12_must_5 (by decide) (fun c10 => ?_) (fun c10 => ?_)
    · exact kV_ret hx hb hr hlocks hK hS dX12_must_12 u4 hP hD ⟨hI, hE, ⟨i + 1, (by rw [egv7.symm]; exact hg8), (Nat.le_succ_of_le (Nat.le_refl i)), hlk6, (fun hq => by have q11 := (eE5 21 (by decide)).symm.trans hq; exact ⟨q11, ⟨htk6, rfl⟩⟩)⟩⟩
    · exact kb_dj c10 kc_1 kc_0 (by decide)
  · refine k_top (z := 0) hvk6 ?_
    obtain ⟨gv12, egv12⟩ : ∃ z : Int32, z = u4 19 := ⟨_, rfl⟩
    have hg13 : gv12.toInt = ((i : Nat) : Int) := by rw [egv12]; exact hpk6
    have b14 : kb 0 gv12 400 := kb_tok (rS_fE hE hp0 (by decide)) hp2 hg13
    refine lv_if_ne (tgt := 12) hx hb dX12_must_5 (by decide) (fun c15 => ?_) (fun c15 => ?_)
    · exact kb_nsame c15 kc_0 kc_0
    · refine lv_aload_n hx hb dX12_must_8 rfl (lv_at hl 0 rfl) ?_
      refine kV.callV (As := []) (rest := []) ⟨hx, hb, hml, hown, hg⟩ (m_faults l o r u4 a g hI   N (i) ob (rS_fE hE hp0 (by decide)) (by rw [egv12.symm]; exact hg13) hp2) (cwV 0 hg (kgV wt6_223 wt6_225 wp4_11 wt1_14 wt6_226) rfl rfl rfl (by decide +kernel) ⟨by decide, by decide⟩) hK hP hD hS hA mIs [] rfl (wr := []) rfl rfl rfl (fun i h => by cases h) 0 12 rfl rfl rfl hl.1 rfl (Nat.le_of_ble_eq_true rfl) dX12_must_9 ⟨Nat.le_refl _, Nat.le_refl _⟩ (fun u18 H locs hw16 hP hD hS => ?_)
      have hP : va_P D vwCl (mW K o r u18 a g) H := hP
      have hD : va_D A (mW K o r u18 a g) := hD
      have hI : mI u18 a := hw16.1
      have eE19 : fE [21] u4 u18 := hw16.2.1
      have hE : fE [19, 20, 21] f u18 := fE_tr hE (fE_w (by decide) eE19)
      exact kV_ret hx hb hr hlocks hK hS dX12_must_12 u18 hP hD ⟨hI, hE, ⟨i, (by rw [((eE19 19 (by decide)).trans egv12.symm)]; exact hg13), (Nat.le_refl i), hp2, (fun hq => by exact absurd hq hw16.2.2)⟩⟩
set_option maxHeartbeats 4000000 in
set_option maxRecDepth 100000 in
theorem m_leaf  (l : Launch) {D : va_G} {K : Nat → ClassId} (o : Nat) (r : Nat → Nat) (f : Nat → Int32) (a : Nat → Nat → Int32) (g : Nat → Int64) (hI : mI f a)   (N i : Nat) (ob : Bool) (hp0 : rS f a N ob) (hp1 : (f 19).toInt = (i : Int)) (hp2 : i ≤ N) (hp3 : f 21 = -1 → i < N) : kV l yX12_leaf (Cond.code yX12_leaf cX12_leaf 1 none :: kG) (rmD 3 0 0) D (tysK K) [.ref o] (mW K o r f a g) (fun (u : Nat → Int32) => mI u a ∧ fE [19, 20, 21] f u ∧ (∃ i2 : Nat, (u 19).toInt = (i2 : Int) ∧ i ≤ i2 ∧ i2 ≤ N ∧ (u 21 = -1 → f 21 = -1 ∧ i2 = i + 1))) (fun u => mW K o r u a g) 0 0 := by
  refine kV.of (cc := cX12_leaf) (maxL := 1) (ret := none) (by decide) rfl (Nat.le_of_ble_eq_true rfl) ?_
  intro p e s m below meth c A hx hb hr hml hown hts hlocks hnm hK hP hD hS hA ls hl
  have hE : fE [19, 20, 21] f f := fE_rf
  have hg : ∀ w ∈ kG, w.before _ s = true := fun w h => hts w (List.mem_cons_of_mem _ h)
  have hown : s.vm.findClass RX12 = some m.cls := hown
  have hl : lv_has ls 1 [(0, .ref o)] := hl
  obtain ⟨c19, ec19⟩ : ∃ z : Int32, z = f 19 := ⟨_, rfl⟩
  have hg0 : c19.toInt = (i : Int) := by rw [ec19]; exact hp1
  have b1 : kb 0 c19 400 := kb_tok hp0 hp2 hg0
  refine lv_aload_n hx hb dX12_leaf_0 rfl (lv_at hl 0 rfl) ?_
  refine va_get (D := D) (ci := 12) (v := .int (f 20)) (C := RX12) (T := TX12) (N := 48) hx hb hg inC12 hown hK hP 0 rfl rfl 20 (by decide) (hg _ wt5_180) (fun _ h9 => h9) rfl dX12_leaf_1 ?_
  refine lv_topi (fun t2 et2 => ?_)
  refine lv_bipush (v := 50) hx hb dX12_leaf_4 (by decide) ?_
  refine lv_icmp_ne (tgt := 13) hx hb dX12_leaf_6 (by decide) (fun c3 => ?_) (fun c3 => ?_)
  · refine lv_aload_n hx hb dX12_leaf_13 rfl (lv_at hl 0 rfl) ?_
    refine lv_dup hx hb dX12_leaf_14 rfl ?_
    refine va_get (D := D) (ci := 12) (v := .int (f 20)) (C := RX12) (T := TX12) (N := 48) hx hb hg inC12 hown hK hP 0 rfl rfl 20 (by decide) (hg _ wt5_180) (fun _ h9 => h9) rfl dX12_leaf_15 ?_
    refine k_top (z := t2) et2.symm ?_
    refine lv_iconst (v := 1) hx hb dX12_leaf_18 (by decide) ?_
    refine lv_iadd hx hb dX12_leaf_19 ?_
    refine lv_topi (fun t4 et4 => ?_)
    refine va_put (D := D) (ci := 12) (v := .int t4) (ty := .int) (C := RX12) (T := TX12) (N := 48) hx hb hg inC12 tyX12 tyX12_ok nmX12 hown hK hP hD hS 0 rfl rfl 20 (by decide) (hg _ wt5_180) (fun _ h9 => h9) rfl (by decide +kernel) rfl rfl (Nat.le_of_ble_eq_true rfl) dX12_leaf_20 (fun H locs hP hD hS => ?_)
    have hP : va_P D vwCl (mW K o r (upd f 20 t4) a g) H := hP
    have hD : va_D A (mW K o r (upd f 20 t4) a g) := hD
    refine k_gen (P := fun z => va_P D vwCl (mW K o r z a g) H ∧ va_D A (mW K o r z a g) ∧ (mI z a) ∧ (fE [19, 20, 21] f z)) (upd f 20 t4) ⟨hP, hD, (mI_f hI (fI_st hI.1 20 (kb_any _) (by decide) (by decide))), (fE_f hE (by decide))⟩ (fun f_5 ef_5 hq => ?_)
    obtain ⟨hP, hD, hI, hE⟩ := hq
    refine lv_aload_n hx hb dX12_leaf_23 rfl (lv_at hl 0 rfl) ?_
    refine kI.callV (As := []) (rest := []) ⟨hx, hb, hml, hown, hg⟩ (m_fine l o r f_5 a g hI   ) (cwV 0 hg (kgV wt6_204 wt6_206 wp4_7 wt1_14 wt6_207) rfl rfl rfl (by decide +kernel) ⟨by decide, by decide⟩) hK hP hD hS hA mIs [] rfl (wr := []) rfl rfl rfl (fun i h => by cases h) 0 12 rfl rfl rfl hl.1 rfl (Nat.le_of_ble_eq_true rfl) dX12_leaf_24 ⟨Nat.le_refl _, Nat.le_refl _⟩ (fun v7 u8 H locs hw6 hP hD hS => ?_)
    have hP : va_P D vwCl (mW K o r f_5 a g) H := hP
    have hD : va_D A (mW K o r f_5 a g) := hD
    rcases hw6.2 with hf9 | hf9
    · refine k_top (z := 1) hf9.1 ?_
      have q10 := ((show f_5 21 = f 21 from by rw [← ef_5]; rfl)).symm.trans hf9.2
      refine lv_if_eq (tgt := 40) hx hb dX12_leaf_27 (by decide) (fun c11 => ?_) (fun c11 => ?_)
      · exact kb_dj c11 kc_1 kc_0 (by decide)
      · have b12 : kb 0 c19 399 := kb_tok1 hp0 (hp3 q10) hg0
        refine lv_aload_n hx hb dX12_leaf_30 rfl (lv_at hl 0 rfl) ?_
        refine lv_dup hx hb dX12_leaf_31 rfl ?_
        refine va_get (D := D) (ci := 12) (v := .int (f_5 19)) (C := RX12) (T := TX12) (N := 48) hx hb hg inC12 hown hK hP 0 rfl rfl 19 (by decide) (hg _ wt5_179) (fun _ h9 => h9) rfl dX12_leaf_32 ?_
        refine k_top (z := c19) ((show f_5 19 = f 19 from by rw [← ef_5]; rfl).trans ec19.symm) ?_
        refine lv_iconst (v := 1) hx hb dX12_leaf_35 (by decide) ?_
        refine lv_iadd hx hb dX12_leaf_36 ?_
        refine lv_topi (fun t13 et13 => ?_)
        have b14 : kb 1 t13 400 := kb_eq et13 (kb_add b12 kc_1 (by decide) (by decide))
        have qt13 : t13.toInt = c19.toInt + 1 := by rw [et13]; exact kt_addc b12 kc_1 (by decide) (by decide)
        have hg15 : t13.toInt = ((i + 1 : Nat) : Int) := by rw [qt13, hg0]; omega
        refine va_put (D := D) (ci := 12) (v := .int t13) (ty := .int) (C := RX12) (T := TX12) (N := 48) hx hb hg inC12 tyX12 tyX12_ok nmX12 hown hK hP hD hS 0 rfl rfl 19 (by decide) (hg _ wt5_179) (fun _ h9 => h9) rfl (by decide +kernel) rfl rfl (Nat.le_of_ble_eq_true rfl) dX12_leaf_37 (fun H locs hP hD hS => ?_)
        have hP : va_P D vwCl (mW K o r (upd f_5 19 t13) a g) H := hP
        have hD : va_D A (mW K o r (upd f_5 19 t13) a g) := hD
        refine k_gen (P := fun z => va_P D vwCl (mW K o r z a g) H ∧ va_D A (mW K o r z a g) ∧ (mI z a) ∧ (fE [19, 20, 21] f z)) (upd f_5 19 t13) ⟨hP, hD, (mI_f hI (fI_st hI.1 19 b14 (by decide) (by decide))), (fE_f hE (by decide))⟩ (fun f_16 ef_16 hq => ?_)
        obtain ⟨hP, hD, hI, hE⟩ := hq
        exact kV_ret hx hb hr hlocks hK hS dX12_leaf_40 f_16 hP hD ⟨hI, hE, ⟨i + 1, (by rw [(show f_16 19 = t13 from by rw [← ef_16]; rfl)]; exact hg15), (Nat.le_succ i), (hp3 q10), (fun hq => by have q17 := ((show f_16 21 = f_5 21 from by rw [← ef_16]; rfl)).symm.trans hq; have q18 := ((show f_5 21 = f 21 from by rw [← ef_5]; rfl)).symm.trans q17; exact ⟨q18, rfl⟩)⟩⟩
    · refine k_top (z := 0) hf9.1 ?_
      refine lv_if_eq (tgt := 40) hx hb dX12_leaf_27 (by decide) (fun c19 => ?_) (fun c19 => ?_)
      · exact kV_ret hx hb hr hlocks hK hS dX12_leaf_40 f_5 hP hD ⟨hI, hE, ⟨i, (by rw [((show f_5 19 = f 19 from by rw [← ef_5]; rfl).trans ec19.symm)]; exact hg0), (Nat.le_refl i), hp2, (fun hq => by exact absurd hq hf9.2)⟩⟩
      · exact kb_nsame c19 kc_0 kc_0
  · have b20 : kb 50 t2 50 := kb_eq c3 kc_50
    refine lv_aload_n hx hb dX12_leaf_9 rfl (lv_at hl 0 rfl) ?_
    refine kV.callV (As := []) (rest := []) ⟨hx, hb, hml, hown, hg⟩ (m_faults l o r f a g hI   N (i) ob (rS_fE hE hp0 (by decide)) (by rw [ec19.symm]; exact hg0) hp2) (cwV 0 hg (kgV wt6_223 wt6_225 wp4_11 wt1_14 wt6_226) rfl rfl rfl (by decide +kernel) ⟨by decide, by decide⟩) hK hP hD hS hA mIs [] rfl (wr := []) rfl rfl rfl (fun i h => by cases h) 0 12 rfl rfl rfl hl.1 rfl (Nat.le_of_ble_eq_true rfl) dX12_leaf_10 ⟨Nat.le_refl _, Nat.le_refl _⟩ (fun u23 H locs hw21 hP hD hS => ?_)
    have hP : va_P D vwCl (mW K o r u23 a g) H := hP
    have hD : va_D A (mW K o r u23 a g) := hD
    have hI : mI u23 a := hw21.1
    have eE24 : fE [21] f u23 := hw21.2.1
    have hE : fE [19, 20, 21] f u23 := fE_tr hE (fE_w (by decide) eE24)
    refine lv_aload_n hx hb dX12_leaf_13 rfl (lv_at hl 0 rfl) ?_
    refine lv_dup hx hb dX12_leaf_14 rfl ?_
    refine va_get (D := D) (ci := 12) (v := .int (u23 20)) (C := RX12) (T := TX12) (N := 48) hx hb hg inC12 hown hK hP 0 rfl rfl 20 (by decide) (hg _ wt5_180) (fun _ h9 => h9) rfl dX12_leaf_15 ?_
    refine k_top (z := t2) ((eE24 20 (by decide)).trans et2.symm) ?_
    refine lv_iconst (v := 1) hx hb dX12_leaf_18 (by decide) ?_
    refine lv_iadd hx hb dX12_leaf_19 ?_
    refine lv_topi (fun t25 et25 => ?_)
    have b26 : kb 51 t25 51 := kb_eq et25 (kb_add b20 kc_1 (by decide) (by decide))
    have qt25 : t25.toInt = t2.toInt + 1 := by rw [et25]; exact kt_addc b20 kc_1 (by decide) (by decide)
    refine va_put (D := D) (ci := 12) (v := .int t25) (ty := .int) (C := RX12) (T := TX12) (N := 48) hx hb hg inC12 tyX12 tyX12_ok nmX12 hown hK hP hD hS 0 rfl rfl 20 (by decide) (hg _ wt5_180) (fun _ h9 => h9) rfl (by decide +kernel) rfl rfl (Nat.le_of_ble_eq_true rfl) dX12_leaf_20 (fun H locs hP hD hS => ?_)
    have hP : va_P D vwCl (mW K o r (upd u23 20 t25) a g) H := hP
    have hD : va_D A (mW K o r (upd u23 20 t25) a g) := hD
    refine k_gen (P := fun z => va_P D vwCl (mW K o r z a g) H ∧ va_D A (mW K o r z a g) ∧ (mI z a) ∧ (fE [19, 20, 21] f z)) (upd u23 20 t25) ⟨hP, hD, (mI_f hI (fI_st hI.1 20 (kb_any _) (by decide) (by decide))), (fE_f hE (by decide))⟩ (fun f_27 ef_27 hq => ?_)
    obtain ⟨hP, hD, hI, hE⟩ := hq
    refine lv_aload_n hx hb dX12_leaf_23 rfl (lv_at hl 0 rfl) ?_
    refine kI.callV (As := []) (rest := []) ⟨hx, hb, hml, hown, hg⟩ (m_fine l o r f_27 a g hI   ) (cwV 0 hg (kgV wt6_204 wt6_206 wp4_7 wt1_14 wt6_207) rfl rfl rfl (by decide +kernel) ⟨by decide, by decide⟩) hK hP hD hS hA mIs [] rfl (wr := []) rfl rfl rfl (fun i h => by cases h) 0 12 rfl rfl rfl hl.1 rfl (Nat.le_of_ble_eq_true rfl) dX12_leaf_24 ⟨Nat.le_refl _, Nat.le_refl _⟩ (fun v29 u30 H locs hw28 hP hD hS => ?_)
    have hP : va_P D vwCl (mW K o r f_27 a g) H := hP
    have hD : va_D A (mW K o r f_27 a g) := hD
    rcases hw28.2 with hf31 | hf31
    · refine k_top (z := 1) hf31.1 ?_
      have q32 := ((show f_27 21 = u23 21 from by rw [← ef_27]; rfl)).symm.trans hf31.2
      exact absurd q32 hw21.2.2
    · refine k_top (z := 0) hf31.1 ?_
      refine lv_if_eq (tgt := 40) hx hb dX12_leaf_27 (by decide) (fun c33 => ?_) (fun c33 => ?_)
      · exact kV_ret hx hb hr hlocks hK hS dX12_leaf_40 f_27 hP hD ⟨hI, hE, ⟨i, (by rw [((show f_27 19 = u23 19 from by rw [← ef_27]; rfl).trans ((eE24 19 (by decide)).trans ec19.symm))]; exact hg0), (Nat.le_refl i), hp2, (fun hq => by exact absurd hq hf31.2)⟩⟩
      · exact kb_nsame c33 kc_0 kc_0
set_option maxHeartbeats 4000000 in
set_option maxRecDepth 100000 in
theorem m_mustNumber  (l : Launch) {D : va_G} {K : Nat → ClassId} (o : Nat) (r : Nat → Nat) (f : Nat → Int32) (a : Nat → Nat → Int32) (g : Nat → Int64) (hI : mI f a) (lo : Int32) (hi : Int32)  (N i : Nat) (ob : Bool) (hp0 : rS f a N ob) (hp1 : (f 19).toInt = (i : Int)) (hp2 : i ≤ N) : kV l yX12_mustNumber (Cond.code yX12_mustNumber cX12_mustNumber 3 none :: kG) (rmD 3 0 0) D (tysK K) [.ref o, .int lo, .int hi] (mW K o r f a g) (fun (u : Nat → Int32) => mI u a ∧ fE [19, 20, 21] f u ∧ (∃ i2 : Nat, (u 19).toInt = (i2 : Int) ∧ i ≤ i2 ∧ i2 ≤ N ∧ (u 21 = -1 → f 21 = -1 ∧ (rC (a 15) N i = 50 ∧ i2 = i + 1)))) (fun u => mW K o r u a g) 0 0 := by
  refine kV.of (cc := cX12_mustNumber) (maxL := 3) (ret := none) (by decide) rfl (Nat.le_of_ble_eq_true rfl) ?_
  intro p e s m below meth c A hx hb hr hml hown hts hlocks hnm hK hP hD hS hA ls hl
  have hE : fE [19, 20, 21] f f := fE_rf
  have hg : ∀ w ∈ kG, w.before _ s = true := fun w h => hts w (List.mem_cons_of_mem _ h)
  have hown : s.vm.findClass RX12 = some m.cls := hown
  have hl : lv_has ls 3 [(0, .ref o), (1, .int lo), (2, .int hi)] := hl
  obtain ⟨c19, ec19⟩ : ∃ z : Int32, z = f 19 := ⟨_, rfl⟩
  have hg0 : c19.toInt = (i : Int) := by rw [ec19]; exact hp1
  have b1 : kb 0 c19 400 := kb_tok hp0 hp2 hg0
  refine lv_aload_n hx hb dX12_mustNumber_0 rfl (lv_at hl 0 rfl) ?_
  refine kI.callV (As := []) (rest := []) ⟨hx, hb, hml, hown, hg⟩ (m_fine l o r f a g hI   ) (cwV 0 hg (kgV wt6_204 wt6_206 wp4_7 wt1_14 wt6_207) rfl rfl rfl (by decide +kernel) ⟨by decide, by decide⟩) hK hP hD hS hA mIs [] rfl (wr := []) rfl rfl rfl (fun i h => by cases h) 0 12 rfl rfl rfl hl.1 rfl (Nat.le_of_ble_eq_true rfl) dX12_mustNumber_1 ⟨Nat.le_refl _, Nat.le_refl _⟩ (fun v3 u4 H locs hw2 hP hD hS => ?_)
  have hP : va_P D vwCl (mW K o r f a g) H := hP
  have hD : va_D A (mW K o r f a g) := hD
  rcases hw2.2 with hf5 | hf5
  · refine k_top (z := 1) hf5.1 ?_
    refine lv_if_eq (tgt := 42) hx hb dX12_mustNumber_4 (by decide) (fun c6 => ?_) (fun c6 => ?_)
    · exact kb_dj c6 kc_1 kc_0 (by decide)
    · refine lv_aload_n hx hb dX12_mustNumber_7 rfl (lv_at hl 0 rfl) ?_
      refine va_get (D := D) (ci := 12) (v := .ref (r 15)) (C := RX12) (T := TX12) (N := 48) hx hb hg inC12 hown hK hP 0 rfl rfl 15 (by decide) (hg _ wt5_175) (fun _ h9 => h9) rfl dX12_mustNumber_8 ?_
      refine lv_aload_n hx hb dX12_mustNumber_11 rfl (lv_at hl 0 rfl) ?_
      refine va_get (D := D) (ci := 12) (v := .int (f 19)) (C := RX12) (T := TX12) (N := 48) hx hb hg inC12 hown hK hP 0 rfl rfl 19 (by decide) (hg _ wt5_179) (fun _ h9 => h9) rfl dX12_mustNumber_12 ?_
      refine k_top (z := c19) ec19.symm ?_
      refine va_iald hx hb hK hP 9 0 rfl rfl (kb_in b1 (by decide) (by decide)) dX12_mustNumber_15 ?_
      refine lv_topi (fun t7 et7 => ?_)
      have ht8 : t7 = rC (a 15) N (i) := et7.trans (rC_at (rS_fE hE hp0 (by decide)) hp2 hg0)
      refine lv_bipush (v := 50) hx hb dX12_mustNumber_16 (by decide) ?_
      refine lv_icmp_ne (tgt := 38) hx hb dX12_mustNumber_18 (by decide) (fun c9 => ?_) (fun c9 => ?_)
      · refine lv_aload_n hx hb dX12_mustNumber_38 rfl (lv_at hl 0 rfl) ?_
        refine kV.callV (As := []) (rest := []) ⟨hx, hb, hml, hown, hg⟩ (m_faults l o r f a g hI   N (i) ob (rS_fE hE hp0 (by decide)) (by rw [ec19.symm]; exact hg0) hp2) (cwV 0 hg (kgV wt6_223 wt6_225 wp4_11 wt1_14 wt6_226) rfl rfl rfl (by decide +kernel) ⟨by decide, by decide⟩) hK hP hD hS hA mIs [] rfl (wr := []) rfl rfl rfl (fun i h => by cases h) 0 12 rfl rfl rfl hl.1 rfl (Nat.le_of_ble_eq_true rfl) dX12_mustNumber_39 ⟨Nat.le_refl _, Nat.le_refl _⟩ (fun u12 H locs hw10 hP hD hS => ?_)
        have hP : va_P D vwCl (mW K o r u12 a g) H := hP
        have hD : va_D A (mW K o r u12 a g) := hD
        have hI : mI u12 a := hw10.1
        have eE13 : fE [21] f u12 := hw10.2.1
        have hE : fE [19, 20, 21] f u12 := fE_tr hE (fE_w (by decide) eE13)
        refine lv_aload_n hx hb dX12_mustNumber_42 rfl (lv_at hl 0 rfl) ?_
        refine kI.callV (As := []) (rest := []) ⟨hx, hb, hml, hown, hg⟩ (m_fine l o r u12 a g hI   ) (cwV 0 hg (kgV wt6_204 wt6_206 wp4_7 wt1_14 wt6_207) rfl rfl rfl (by decide +kernel) ⟨by decide, by decide⟩) hK hP hD hS hA mIs [] rfl (wr := []) rfl rfl rfl (fun i h => by cases h) 0 12 rfl rfl rfl hl.1 rfl (Nat.le_of_ble_eq_true rfl) dX12_mustNumber_43 ⟨Nat.le_refl _, Nat.le_refl _⟩ (fun v15 u16 H locs hw14 hP hD hS => ?_)
        have hP : va_P D vwCl (mW K o r u12 a g) H := hP
        have hD : va_D A (mW K o r u12 a g) := hD
        rcases hw14.2 with hf17 | hf17
        · refine k_top (z := 1) hf17.1 ?_
          exact absurd hf17.2 hw10.2.2
        · refine k_top (z := 0) hf17.1 ?_
          refine lv_if_eq (tgt := 59) hx hb dX12_mustNumber_46 (by decide) (fun c18 => ?_) (fun c18 => ?_)
          · exact kV_ret hx hb hr hlocks hK hS dX12_mustNumber_59 u12 hP hD ⟨hI, hE, ⟨i, (by rw [((eE13 19 (by decide)).trans ec19.symm)]; exact hg0), (Nat.le_refl i), hp2, (fun hq => by exact absurd hq hf17.2)⟩⟩
          · exact kb_nsame c18 kc_0 kc_0
      · have b19 : kb 50 t7 50 := kb_eq c9 kc_50
        refine lv_aload_n hx hb dX12_mustNumber_21 rfl (lv_at hl 0 rfl) ?_
        refine va_get (D := D) (ci := 12) (v := .ref (r 16)) (C := RX12) (T := TX12) (N := 48) hx hb hg inC12 hown hK hP 0 rfl rfl 16 (by decide) (hg _ wt5_176) (fun _ h9 => h9) rfl dX12_mustNumber_22 ?_
        refine lv_aload_n hx hb dX12_mustNumber_25 rfl (lv_at hl 0 rfl) ?_
        refine va_get (D := D) (ci := 12) (v := .int (f 19)) (C := RX12) (T := TX12) (N := 48) hx hb hg inC12 hown hK hP 0 rfl rfl 19 (by decide) (hg _ wt5_179) (fun _ h9 => h9) rfl dX12_mustNumber_26 ?_
        refine k_top (z := c19) ec19.symm ?_
        refine va_iald hx hb hK hP 10 0 rfl rfl (kb_in b1 (by decide) (by decide)) dX12_mustNumber_29 ?_
        refine lv_topi (fun t20 et20 => ?_)
        refine lv_iload_n hx hb dX12_mustNumber_30 rfl (lv_at hl 1 rfl) ?_
        refine lv_iload_n hx hb dX12_mustNumber_31 rfl (lv_at hl 2 rfl) ?_
        refine kN.callS (As := [.int t20, .int lo, .int hi]) (rest := []) ⟨hx, hb, hml, hown, hg⟩ (m_lies l t20 lo hi ) (va_cwS 3 hg (kgS wt6_69 wt6_70 wt1_14 wt6_71) rfl rfl rfl (by decide +kernel) ⟨by decide, by decide⟩) hP hS rfl hl.1 rfl (Nat.le_of_ble_eq_true rfl) dX12_mustNumber_32 ⟨Nat.le_refl _, Nat.le_refl _⟩ (fun v22 H locs hw21 hP hS => ?_)
        refine lv_if_ne (tgt := 42) hx hb dX12_mustNumber_35 (by decide) (fun c24 => ?_) (fun c24 => ?_)
        · have b25 : kb 1 v22 1 := kr_nel c24 hw21.1 kc_0 (by decide)
          have h26 := mLies_ne (hw21.2 ▸ c24)
          refine lv_aload_n hx hb dX12_mustNumber_42 rfl (lv_at hl 0 rfl) ?_
          refine kI.callV (As := []) (rest := []) ⟨hx, hb, hml, hown, hg⟩ (m_fine l o r f a g hI   ) (cwV 0 hg (kgV wt6_204 wt6_206 wp4_7 wt1_14 wt6_207) rfl rfl rfl (by decide +kernel) ⟨by decide, by decide⟩) hK hP hD hS hA mIs [] rfl (wr := []) rfl rfl rfl (fun i h => by cases h) 0 12 rfl rfl rfl hl.1 rfl (Nat.le_of_ble_eq_true rfl) dX12_mustNumber_43 ⟨Nat.le_refl _, Nat.le_refl _⟩ (fun v28 u29 H locs hw27 hP hD hS => ?_)
          have hP : va_P D vwCl (mW K o r f a g) H := hP
          have hD : va_D A (mW K o r f a g) := hD
          rcases hw27.2 with hf30 | hf30
          · refine k_top (z := 1) hf30.1 ?_
            refine lv_if_eq (tgt := 59) hx hb dX12_mustNumber_46 (by decide) (fun c31 => ?_) (fun c31 => ?_)
            · exact kb_dj c31 kc_1 kc_0 (by decide)
            · have b32 : kb 0 c19 399 := kb_tok1 hp0 (rC_lt (ne_0 (ht8.symm.trans c9) (by decide +kernel))) hg0
              refine lv_aload_n hx hb dX12_mustNumber_49 rfl (lv_at hl 0 rfl) ?_
              refine lv_dup hx hb dX12_mustNumber_50 rfl ?_
              refine va_get (D := D) (ci := 12) (v := .int (f 19)) (C := RX12) (T := TX12) (N := 48) hx hb hg inC12 hown hK hP 0 rfl rfl 19 (by decide) (hg _ wt5_179) (fun _ h9 => h9) rfl dX12_mustNumber_51 ?_
              refine k_top (z := c19) ec19.symm ?_
              refine lv_iconst (v := 1) hx hb dX12_mustNumber_54 (by decide) ?_
              refine lv_iadd hx hb dX12_mustNumber_55 ?_
              refine lv_topi (fun t33 et33 => ?_)
              have b34 : kb 1 t33 400 := kb_eq et33 (kb_add b32 kc_1 (by decide) (by decide))
              have qt33 : t33.toInt = c19.toInt + 1 := by rw [et33]; exact kt_addc b32 kc_1 (by decide) (by decide)
              have hg35 : t33.toInt = ((i + 1 : Nat) : Int) := by rw [qt33, hg0]; omega
              refine va_put (D := D) (ci := 12) (v := .int t33) (ty := .int) (C := RX12) (T := TX12) (N := 48) hx hb hg inC12 tyX12 tyX12_ok nmX12 hown hK hP hD hS 0 rfl rfl 19 (by decide) (hg _ wt5_179) (fun _ h9 => h9) rfl (by decide +kernel) rfl rfl (Nat.le_of_ble_eq_true rfl) dX12_mustNumber_56 (fun H locs hP hD hS => ?_)
              have hP : va_P D vwCl (mW K o r (upd f 19 t33) a g) H := hP
              have hD : va_D A (mW K o r (upd f 19 t33) a g) := hD
              refine k_gen (P := fun z => va_P D vwCl (mW K o r z a g) H ∧ va_D A (mW K o r z a g) ∧ (mI z a) ∧ (fE [19, 20, 21] f z)) (upd f 19 t33) ⟨hP, hD, (mI_f hI (fI_st hI.1 19 b34 (by decide) (by decide))), (fE_f hE (by decide))⟩ (fun f_36 ef_36 hq => ?_)
              obtain ⟨hP, hD, hI, hE⟩ := hq
              exact kV_ret hx hb hr hlocks hK hS dX12_mustNumber_59 f_36 hP hD ⟨hI, hE, ⟨i + 1, (by rw [(show f_36 19 = t33 from by rw [← ef_36]; rfl)]; exact hg35), (Nat.le_succ i), (rC_lt (ne_0 (ht8.symm.trans c9) (by decide +kernel))), (fun hq => by have q37 := ((show f_36 21 = f 21 from by rw [← ef_36]; rfl)).symm.trans hq; exact ⟨q37, ⟨(ht8.symm.trans c9), rfl⟩⟩)⟩⟩
          · refine k_top (z := 0) hf30.1 ?_
            refine lv_if_eq (tgt := 59) hx hb dX12_mustNumber_46 (by decide) (fun c38 => ?_) (fun c38 => ?_)
            · exact kV_ret hx hb hr hlocks hK hS dX12_mustNumber_59 f hP hD ⟨hI, hE, ⟨i, (by rw [ec19.symm]; exact hg0), (Nat.le_refl i), hp2, (fun hq => by exact absurd hq hf30.2)⟩⟩
            · exact kb_nsame c38 kc_0 kc_0
        · have b39 : kb 0 v22 0 := kb_eq c24 kc_0
          refine lv_aload_n hx hb dX12_mustNumber_38 rfl (lv_at hl 0 rfl) ?_
          refine kV.callV (As := []) (rest := []) ⟨hx, hb, hml, hown, hg⟩ (m_faults l o r f a g hI   N (i) ob (rS_fE hE hp0 (by decide)) (by rw [ec19.symm]; exact hg0) hp2) (cwV 0 hg (kgV wt6_223 wt6_225 wp4_11 wt1_14 wt6_226) rfl rfl rfl (by decide +kernel) ⟨by decide, by decide⟩) hK hP hD hS hA mIs [] rfl (wr := []) rfl rfl rfl (fun i h => by cases h) 0 12 rfl rfl rfl hl.1 rfl (Nat.le_of_ble_eq_true rfl) dX12_mustNumber_39 ⟨Nat.le_refl _, Nat.le_refl _⟩ (fun u42 H locs hw40 hP hD hS => ?_)
          have hP : va_P D vwCl (mW K o r u42 a g) H := hP
          have hD : va_D A (mW K o r u42 a g) := hD
          have hI : mI u42 a := hw40.1
          have eE43 : fE [21] f u42 := hw40.2.1
          have hE : fE [19, 20, 21] f u42 := fE_tr hE (fE_w (by decide) eE43)
          refine lv_aload_n hx hb dX12_mustNumber_42 rfl (lv_at hl 0 rfl) ?_
          refine kI.callV (As := []) (rest := []) ⟨hx, hb, hml, hown, hg⟩ (m_fine l o r u42 a g hI   ) (cwV 0 hg (kgV wt6_204 wt6_206 wp4_7 wt1_14 wt6_207) rfl rfl rfl (by decide +kernel) ⟨by decide, by decide⟩) hK hP hD hS hA mIs [] rfl (wr := []) rfl rfl rfl (fun i h => by cases h) 0 12 rfl rfl rfl hl.1 rfl (Nat.le_of_ble_eq_true rfl) dX12_mustNumber_43 ⟨Nat.le_refl _, Nat.le_refl _⟩ (fun v45 u46 H locs hw44 hP hD hS => ?_)
          have hP : va_P D vwCl (mW K o r u42 a g) H := hP
          have hD : va_D A (mW K o r u42 a g) := hD
          rcases hw44.2 with hf47 | hf47
          · refine k_top (z := 1) hf47.1 ?_
            exact absurd hf47.2 hw40.2.2
          · refine k_top (z := 0) hf47.1 ?_
            refine lv_if_eq (tgt := 59) hx hb dX12_mustNumber_46 (by decide) (fun c48 => ?_) (fun c48 => ?_)
            · exact kV_ret hx hb hr hlocks hK hS dX12_mustNumber_59 u42 hP hD ⟨hI, hE, ⟨i, (by rw [((eE43 19 (by decide)).trans ec19.symm)]; exact hg0), (Nat.le_refl i), hp2, (fun hq => by exact absurd hq hf47.2)⟩⟩
            · exact kb_nsame c48 kc_0 kc_0
  · refine k_top (z := 0) hf5.1 ?_
    refine lv_if_eq (tgt := 42) hx hb dX12_mustNumber_4 (by decide) (fun c49 => ?_) (fun c49 => ?_)
    · refine lv_aload_n hx hb dX12_mustNumber_42 rfl (lv_at hl 0 rfl) ?_
      refine kI.callV (As := []) (rest := []) ⟨hx, hb, hml, hown, hg⟩ (m_fine l o r f a g hI   ) (cwV 0 hg (kgV wt6_204 wt6_206 wp4_7 wt1_14 wt6_207) rfl rfl rfl (by decide +kernel) ⟨by decide, by decide⟩) hK hP hD hS hA mIs [] rfl (wr := []) rfl rfl rfl (fun i h => by cases h) 0 12 rfl rfl rfl hl.1 rfl (Nat.le_of_ble_eq_true rfl) dX12_mustNumber_43 ⟨Nat.le_refl _, Nat.le_refl _⟩ (fun v51 u52 H locs hw50 hP hD hS => ?_)
      have hP : va_P D vwCl (mW K o r f a g) H := hP
      have hD : va_D A (mW K o r f a g) := hD
      rcases hw50.2 with hf53 | hf53
      · refine k_top (z := 1) hf53.1 ?_
        exact absurd hf53.2 hf5.2
      · refine k_top (z := 0) hf53.1 ?_
        refine lv_if_eq (tgt := 59) hx hb dX12_mustNumber_46 (by decide) (fun c54 => ?_) (fun c54 => ?_)
        · exact kV_ret hx hb hr hlocks hK hS dX12_mustNumber_59 f hP hD ⟨hI, hE, ⟨i, (by rw [ec19.symm]; exact hg0), (Nat.le_refl i), hp2, (fun hq => by exact absurd hq hf53.2)⟩⟩
        · exact kb_nsame c54 kc_0 kc_0
    · exact kb_nsame c49 kc_0 kc_0
