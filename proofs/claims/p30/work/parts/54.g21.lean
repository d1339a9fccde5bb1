/-! what is read by the function is a text of the grammar -/
theorem lf_t {o : Bool} {c v t : Int32} (h : tOk c v t) (q : pLf o t = true) : c = 50 ∨ (o = false ∧ 9 ≤ c.toInt ∧ c.toInt ≤ 18) ∨ (o = true ∧ 16 ≤ c.toInt ∧ c.toInt ≤ 22) := by
  by_cases h0 : c = 50 ∧ v.toInt ≤ 1000
  · exact Or.inl h0.1
  · by_cases h1 : kb (if o = true then 16 else 9) c (if o = true then 22 else 18)
    · cases o with
      | false => exact Or.inr (Or.inl ⟨rfl, h1.1, h1.2⟩)
      | true => exact Or.inr (Or.inr ⟨rfl, h1.1, h1.2⟩)
    · rw [lf_f h h0 h1] at q; cases q
theorem nm_t {o : Bool} {c v t : Int32} (h : tOk c v t) (q : pNm o t = true) : o = true ∧ (c = 16 ∨ c = 17 ∨ c = 22) := by
  cases o with
  | false => unfold pNm at q; rw [Bool.false_and] at q; cases q
  | true =>
    refine ⟨rfl, ?_⟩
    unfold pNm at q
    rw [Bool.true_and, Bool.or_eq_true, Bool.or_eq_true, decide_eq_true_iff, decide_eq_true_iff, decide_eq_true_iff] at q
    rcases q with (e | e) | e
    · exact Or.inl ((tk_iff h (by decide +kernel)).mpr (e.trans (by decide +kernel)))
    · exact Or.inr (Or.inl ((tk_iff h (by decide +kernel)).mpr (e.trans (by decide +kernel))))
    · exact Or.inr (Or.inr ((tk_iff h (by decide +kernel)).mpr (e.trans (by decide +kernel))))
theorem pIn_50 {c v t : Int32} {lo hi : Int} (h : tOk c v t) (q : pInr t lo hi = true) (hh : hi ≤ 1000) : c = 50 := by
  by_cases e : c = 50
  · exact e
  · have h1 := tk_n50 h e
    have h2 := of_decide_eq_true q
    omega
theorem pB_t {x : pR} {k : Nat → Nat → pR} {j m : Nat} (h : pBn x k = some (true, j, m)) : ∃ j' m', x = some (true, j', m') ∧ k j' m' = some (true, j, m) := by
  cases x with
  | none => have h : (none : pR) = some (true, j, m) := h; cases h
  | some z =>
    obtain ⟨b, j', m'⟩ := z
    cases b with
    | true => exact ⟨j', m', rfl, h⟩
    | false =>
      have h : (some (false, j', m') : pR) = some (true, j, m) := h
      have := Option.some.inj h
      simp only [Prod.mk.injEq] at this
      exact absurd this.1 (by decide)
theorem nf_t {i j m : Nat} (h : (some (false, i, 0) : pR) = some (true, j, m)) : False := by
  have := Option.some.inj h
  simp only [Prod.mk.injEq] at this
  exact absurd this.1 (by decide)
theorem tt_t {i j n m : Nat} (h : (some (true, i, n) : pR) = some (true, j, m)) : j = i := by
  have := Option.some.inj h
  simp only [Prod.mk.injEq] at this
  exact this.2.1.symm
section PGG
variable {o : Bool} {T c : Nat → Int32}
theorem pg_one (hT : ∀ i, ∃ v, tOk (c i) v (T i)) {i : Nat} {x k : Int32} (h : T i = k) (hx : mpOk x = true) (e : mpT x = k) : c i = x := by
  obtain ⟨v, hv⟩ := hT i
  exact (tk_iff hv hx).mpr (h.trans e.symm)
theorem pg_no (hT : ∀ i, ∃ v, tOk (c i) v (T i)) {i : Nat} {x k : Int32} (h : ¬ T i = k) (hx : mpOk x = true) (e : mpT x = k) : ¬ c i = x := by
  obtain ⟨v, hv⟩ := hT i
  exact fun q => h (((tk_iff hv hx).mp q).trans e)
theorem pgG (hT : ∀ i, ∃ v, tOk (c i) v (T i)) : ∀ f d k i n j m, pP o T f d k i n = some (true, j, m) → k ≠ 17 → gG o c d k i j := by
  intro f
  induction f with
  | zero => intro d k i n j m h; have h : (none : pR) = some (true, j, m) := h; cases h
  | succ f ih =>
    intro d k i n j m h hk
    have h : pF o T (pP o T f) d k i n = some (true, j, m) := h
    unfold pF at h
    split at h
    · obtain ⟨j', m', h1, h2⟩ := pB_t h
      exact gi_0 (ih _ _ _ _ _ _ h1 (by decide)) (ih _ _ _ _ _ _ h2 (by decide))
    · split at h
      · rename_i w
        obtain ⟨m', g1, g2⟩ := gG_out (ih _ _ _ _ _ _ h (by decide))
        exact gi_6y (w.imp (fun e => pg_one hT e (by decide +kernel) (by decide +kernel)) (fun e => pg_one hT e (by decide +kernel) (by decide +kernel))) g1 g2
      · rename_i w
        rw [tt_t h]
        exact gi_6n (fun q => q.elim (pg_no hT (fun e => w (Or.inl e)) (by decide +kernel) (by decide +kernel)) (pg_no hT (fun e => w (Or.inr e)) (by decide +kernel) (by decide +kernel)))
    · obtain ⟨j', m', h1, h2⟩ := pB_t h
      exact gi_1 (ih _ _ _ _ _ _ h1 (by decide)) (ih _ _ _ _ _ _ h2 (by decide))
    · split at h
      · rename_i w
        obtain ⟨m', g1, g2⟩ := gG_out (ih _ _ _ _ _ _ h (by decide))
        exact gi_7y (w.imp (fun e => pg_one hT e (by decide +kernel) (by decide +kernel)) (fun w => w.imp (fun e => pg_one hT e (by decide +kernel) (by decide +kernel)) (fun e => pg_one hT e (by decide +kernel) (by decide +kernel)))) g1 g2
      · rename_i w
        rw [tt_t h]
        exact gi_7n (fun q => q.elim (pg_no hT (fun e => w (Or.inl e)) (by decide +kernel) (by decide +kernel)) (fun q => q.elim (pg_no hT (fun e => w (Or.inr (Or.inl e))) (by decide +kernel) (by decide +kernel)) (pg_no hT (fun e => w (Or.inr (Or.inr e))) (by decide +kernel) (by decide +kernel))))
    · split at h
      · rename_i w
        split at h
        · exact (nf_t h).elim
        · rename_i wd
          obtain ⟨j', m', h1, h2⟩ := pB_t h
          split at h2
          · rename_i w2
            exact gi_2a (pg_one hT w (by decide +kernel) (by decide +kernel)) (by omega : d = (d - 1) + 1) (ih _ _ _ _ _ _ h1 (by decide)) (pg_one hT w2 (by decide +kernel) (by decide +kernel)) (tt_t h2)
          · exact (nf_t h2).elim
      · split at h
        · exact (nf_t h).elim
        · rename_i w1
          split at h
          · exact (nf_t h).elim
          · obtain ⟨v, hv⟩ := hT i
            have hl : pLf o (T i) = true := by
              cases q : pLf o (T i) with
              | false => exact absurd q w1
              | true => rfl
            split at h
            · rename_i w3
              obtain ⟨ho, hn⟩ := nm_t hv w3
              by_cases w4 : pInr (T (i + 1)) 0 (if T i = 2014 then 9 else 5) = true
              · rw [if_pos w4] at h
                obtain ⟨v2, hv2⟩ := hT (i + 1)
                have h50 : c (i + 1) = 50 := pIn_50 hv2 w4 (by split <;> omega)
                exact gi_2p ho hn rfl h50 (tt_t h)
              · rw [if_neg w4] at h
                exact (nf_t h).elim
            · rename_i w3
              have ej := tt_t h
              rcases lf_t hv hl with e | ⟨ho, e1, e2⟩ | ⟨ho, e1, e2⟩
              · exact gi_2n e ej
              · exact gi_2l ho ⟨e1, e2⟩ ej
              · refine gi_2o ho ⟨e1, e2⟩ (fun q => w3 ?_) ej
                subst ho
                rcases q with q | q | q
                · rw [(tk_iff hv (by decide +kernel)).mp q]; decide +kernel
                · rw [(tk_iff hv (by decide +kernel)).mp q]; decide +kernel
                · rw [(tk_iff hv (by decide +kernel)).mp q]; decide +kernel
    · obtain ⟨j', m', h1, h2⟩ := pB_t h
      exact gi_3 (ih _ _ _ _ _ _ h1 (by decide)) (ih _ _ _ _ _ _ h2 (by decide))
    · split at h
      · rename_i w
        obtain ⟨m', g1, g2⟩ := gG_out (ih _ _ _ _ _ _ h (by decide))
        exact gi_8y (pg_one hT w (by decide +kernel) (by decide +kernel)) g1 g2
      · rename_i w
        rw [tt_t h]
        exact gi_8n (pg_no hT w (by decide +kernel) (by decide +kernel))
    · obtain ⟨j', m', h1, h2⟩ := pB_t h
      exact gi_4 (ih _ _ _ _ _ _ h1 (by decide)) (ih _ _ _ _ _ _ h2 (by decide))
    · split at h
      · rename_i w
        obtain ⟨m', g1, g2⟩ := gG_out (ih _ _ _ _ _ _ h (by decide))
        exact gi_9y (pg_one hT w (by decide +kernel) (by decide +kernel)) g1 g2
      · rename_i w
        rw [tt_t h]
        exact gi_9n (pg_no hT w (by decide +kernel) (by decide +kernel))
    · split at h
      · rename_i w
        exact gi_5y (pg_one hT w (by decide +kernel) (by decide +kernel)) (ih _ _ _ _ _ _ h (by decide))
      · rename_i w
        exact gi_5n (pg_no hT w (by decide +kernel) (by decide +kernel)) (ih _ _ _ _ _ _ h (by decide))
    · split at h
      · rename_i w
        split at h
        · exact (nf_t h).elim
        · rename_i wd
          obtain ⟨j', m', h1, h2⟩ := pB_t h
          split at h2
          · rename_i w2
            exact gi_10a (pg_one hT w (by decide +kernel) (by decide +kernel)) (by omega : d = (d - 1) + 1) (ih _ _ _ _ _ _ h1 (by decide)) (pg_one hT w2 (by decide +kernel) (by decide +kernel)) (tt_t h2)
          · exact (nf_t h2).elim
      · rename_i w
        obtain ⟨j', m', h1, h2⟩ := pB_t h
        split at h2
        · rename_i w2
          exact gi_10b (pg_no hT w (by decide +kernel) (by decide +kernel)) (ih _ _ _ _ _ _ h1 (by decide)) (w2.imp (fun e => pg_one hT e (by decide +kernel) (by decide +kernel)) (fun w2 => w2.imp (fun e => pg_one hT e (by decide +kernel) (by decide +kernel)) (fun e => pg_one hT e (by decide +kernel) (by decide +kernel)))) rfl (ih _ _ _ _ _ _ h2 (by decide))
        · exact (nf_t h2).elim
    · split at h
      · rename_i w
        exact gi_12y (pg_one hT w (by decide +kernel) (by decide +kernel)) (ih _ _ _ _ _ _ h (by decide))
      · rename_i w
        rw [tt_t h]
        exact gi_12n (pg_no hT w (by decide +kernel) (by decide +kernel))
    · split at h
      · rename_i w
        obtain ⟨j', m', h1, h2⟩ := pB_t h
        exact gi_11a (w.imp (fun e => pg_one hT e (by decide +kernel) (by decide +kernel)) (fun w => w.imp (fun e => pg_one hT e (by decide +kernel) (by decide +kernel)) (fun e => pg_one hT e (by decide +kernel) (by decide +kernel)))) (ih _ _ _ _ _ _ h1 (by decide)) (ih _ _ _ _ _ _ h2 (by decide))
      · split at h
        · rename_i w2
          exact gi_11b (pg_one hT w2 (by decide +kernel) (by decide +kernel)) rfl (ih _ _ _ _ _ _ h (by decide))
        · exact (nf_t h).elim
    · split at h
      · rename_i w
        split at h
        · rename_i w2
          obtain ⟨v2, hv2⟩ := hT (i + 1)
          exact gi_14y (pg_one hT w (by decide +kernel) (by decide +kernel)) (pIn_50 hv2 w2 (by decide)) rfl (ih _ _ _ _ _ _ h (by decide))
        · exact (nf_t h).elim
      · rename_i w
        exact gi_14n (pg_no hT w (by decide +kernel) (by decide +kernel)) (ih _ _ _ _ _ _ h (by decide))
    · have h17 : ∀ i n, pP o T f d 17 i n = some (true, j, m) → ∃ m', gG o c d 0 i m' ∧ gG o c d 14 m' j := by
        intro i n q
        cases f with
        | zero => have q : (none : pR) = some (true, j, m) := q; cases q
        | succ f =>
          have q : pBn (pP o T f d 0 i n) (fun j m => pP o T f d 14 j m) = some (true, j, m) := q
          obtain ⟨j', m', h1, h2⟩ := pB_t q
          exact ⟨j', ih _ _ _ _ _ _ (pP_s _ _ _ _ _ _ h1) (by decide), ih _ _ _ _ _ _ (pP_s _ _ _ _ _ _ h2) (by decide)⟩
      split at h
      · rename_i w
        obtain ⟨j', m', h1, h2⟩ := pB_t h
        split at h2
        · rename_i w2
          obtain ⟨m2, g1, g2⟩ := h17 _ _ h2
          exact gi_13a (pg_one hT w (by decide +kernel) (by decide +kernel)) (ih _ _ _ _ _ _ h1 (by decide)) (pg_one hT w2 (by decide +kernel) (by decide +kernel)) rfl g1 g2
        · exact (nf_t h2).elim
      · split at h
        · rename_i w2
          obtain ⟨m2, g1, g2⟩ := h17 _ _ h
          exact gi_13b (w2.imp (fun e => pg_one hT e (by decide +kernel) (by decide +kernel)) (fun e => pg_one hT e (by decide +kernel) (by decide +kernel))) g1 g2
        · split at h
          · rename_i w3
            exact gi_13c (pg_one hT w3 (by decide +kernel) (by decide +kernel)) rfl (ih _ _ _ _ _ _ h (by decide))
          · exact (nf_t h).elim
    · exact absurd rfl hk
    · cases h
theorem pTG (hT : ∀ i, ∃ v, tOk (c i) v (T i)) {N : Nat} : ∀ q i n j, pT o T N q i n (true, j) → gG o c 8 15 i j ∧ ¬ j < N := by
  intro q
  induction q with
  | zero => intro i n j h; have h : ((true, j) : Bool × Nat) = (false, i) := h; simp only [Prod.mk.injEq] at h; exact absurd h.1 (by decide)
  | succ q ih =>
    intro i n j h
    rcases h with ⟨j', -, h⟩ | ⟨j', m, ⟨f, h1⟩, h⟩
    · simp only [Prod.mk.injEq] at h; exact absurd h.1 (by decide)
    · have g1 : gG o c 8 (if o = true then 13 else 11) i j' := by
        have := pgG hT f 8 (pK o) i n j' m h1 (by unfold pK; split <;> decide)
        exact this
      rcases h with ⟨e, h⟩ | ⟨e, -, h⟩ | ⟨e, hN, h⟩
      · obtain ⟨g2, hj⟩ := ih _ _ _ h
        exact ⟨gi_15 g1 (gi_16y (pg_one hT e (by decide +kernel) (by decide +kernel)) g2), hj⟩
      · simp only [Prod.mk.injEq] at h; exact absurd h.1 (by decide)
      · simp only [Prod.mk.injEq] at h
        rw [h.2]
        exact ⟨gi_15 g1 (gi_16n (pg_no hT e (by decide +kernel) (by decide +kernel))), hN⟩
end PGG
theorem rQ_all {a : Nat → Nat → Int32} {N : Nat} {T : Nat → Int32} (hQ : rQ a N T) : ∀ i, ∃ v, tOk (rC (a 15) N i) v (T i) := by
  intro i
  unfold rC
  by_cases q : i < N
  · rw [if_pos q]; exact ⟨_, hQ.1 i q⟩
  · rw [if_neg q]; exact ⟨0, Or.inl ⟨rfl, Or.inr (hQ.2 i (by omega))⟩⟩
theorem spR_Q {t : Nat → Int32} {S N : Nat} {A : Nat → Nat → Int32} (h : spR t S N A) : rQ A N (tkT t S) := ⟨fun i hi => (h.2.1 i hi).2.1, fun i hi => tkT_e h.1 hi⟩
/-- a text: what is read of S bytes -/
def txR (o : Bool) (t : Nat → Int32) (S : Nat) (b : Bool) (p : Int32) : Prop := ∃ N j, plT t S N = S ∧ (∀ i, i < N → plT t S i < S) ∧ pT o (tkT t S) N 12 0 0 (b, j) ∧ p = (if b = true then -1 else pcT t S j)
theorem txR_det {o : Bool} {t : Nat → Int32} {S : Nat} {b b' : Bool} {p p' : Int32} (h : txR o t S b p) (q : txR o t S b' p') : b = b' ∧ p = p' := by
  obtain ⟨N, j, h1, h2, h3, h4⟩ := h
  obtain ⟨N', j', q1, q2, q3, q4⟩ := q
  have e : N = N' := by
    rcases Nat.lt_trichotomy N N' with w | w | w
    · have := q2 N w; omega
    · exact w
    · have := h2 N' w; omega
  subst e
  have e2 := pT_det _ _ _ _ _ h3 q3
  simp only [Prod.mk.injEq] at e2
  rw [h4, q4, e2.1, e2.2]
  exact ⟨rfl, rfl⟩
theorem spR_p {t : Nat → Int32} {S N i : Nat} {A : Nat → Nat → Int32} (h : spR t S N A) (hi : i ≤ N) : A 17 i = pcT t S i := by
  by_cases q : i < N
  · exact (h.2.1 i q).2.2
  · rw [show i = N by omega]; exact h.2.2
/-- behind a clause -/
def pC (o : Bool) (T : Nat → Int32) (N q i n : Nat) (r : Bool × Nat) : Prop := (T i = 3059 ∧ pT o T N q (i + 1) n r) ∨ (¬ T i = 3059 ∧ i < N ∧ r = (false, i)) ∨ (¬ T i = 3059 ∧ ¬ i < N ∧ r = (true, i))
theorem pT_s {o : Bool} {T : Nat → Int32} {N q i n j m : Nat} {r : Bool × Nat} (h : pG o T 8 (pK o) i n (true, j, m)) (g : pC o T N q j m r) : pT o T N (q + 1) i n r := Or.inr ⟨j, m, h, g⟩
theorem pT_f {o : Bool} {T : Nat → Int32} {N q i n j : Nat} (h : pG o T 8 (pK o) i n (false, j, 0)) : pT o T N (q + 1) i n (false, j) := Or.inl ⟨j, h, rfl⟩
theorem c12 {o : Bool} {T : Nat → Int32} {N c i n : Nat} {r : Bool × Nat} (hc : c < 12) (h : pT o T N (12 - (c + 1) + 1) i n r) : pT o T N (12 - c) i n r := by
  rw [show 12 - c = 12 - (c + 1) + 1 by omega]; exact h
theorem dX12_reads_0 : decode cX12_reads 0 = .ok (.aload_n 0, 1) := by decide +kernel
theorem dX12_reads_1 : decode cX12_reads 1 = .ok (.aload_n 0, 1) := by decide +kernel
theorem dX12_reads_2 : decode cX12_reads 2 = .ok (.getfield 138, 3) := by decide +kernel
theorem dX12_reads_5 : decode cX12_reads 5 = .ok (.invokevirtual 226, 3) := by decide +kernel
theorem dX12_reads_8 : decode cX12_reads 8 = .ok (.aload_n 0, 1) := by decide +kernel
theorem dX12_reads_9 : decode cX12_reads 9 = .ok (.iconst 0, 1) := by decide +kernel
theorem dX12_reads_10 : decode cX12_reads 10 = .ok (.putfield 138, 3) := by decide +kernel
theorem dX12_reads_13 : decode cX12_reads 13 = .ok (.aload_n 0, 1) := by decide +kernel
theorem dX12_reads_14 : decode cX12_reads 14 = .ok (.iconst 0, 1) := by decide +kernel
theorem dX12_reads_15 : decode cX12_reads 15 = .ok (.putfield 165, 3) := by decide +kernel
theorem dX12_reads_18 : decode cX12_reads 18 = .ok (.aload_n 0, 1) := by decide +kernel
theorem dX12_reads_19 : decode cX12_reads 19 = .ok (.iconst 0, 1) := by decide +kernel
theorem dX12_reads_20 : decode cX12_reads 20 = .ok (.putfield 174, 3) := by decide +kernel
theorem dX12_reads_23 : decode cX12_reads 23 = .ok (.aload_n 0, 1) := by decide +kernel
theorem dX12_reads_24 : decode cX12_reads 24 = .ok (.iconst (-1), 1) := by decide +kernel
theorem dX12_reads_25 : decode cX12_reads 25 = .ok (.putfield 158, 3) := by decide +kernel
theorem dX12_reads_28 : decode cX12_reads 28 = .ok (.aload_n 0, 1) := by decide +kernel
theorem dX12_reads_29 : decode cX12_reads 29 = .ok (.invokevirtual 229, 3) := by decide +kernel
theorem dX12_reads_32 : decode cX12_reads 32 = .ok (.iconst 1, 1) := by decide +kernel
theorem dX12_reads_33 : decode cX12_reads 33 = .ok (.istore_n 1, 1) := by decide +kernel
theorem dX12_reads_34 : decode cX12_reads 34 = .ok (.aload_n 0, 1) := by decide +kernel
theorem dX12_reads_35 : decode cX12_reads 35 = .ok (.bipush 59, 2) := by decide +kernel
theorem dX12_reads_37 : decode cX12_reads 37 = .ok (.invokestatic 207, 3) := by decide +kernel
theorem dX12_reads_40 : decode cX12_reads 40 = .ok (.invokevirtual 168, 3) := by decide +kernel
theorem dX12_reads_43 : decode cX12_reads 43 = .ok (.ifCond .eq 30, 3) := by decide +kernel
theorem dX12_reads_46 : decode cX12_reads 46 = .ok (.iload_n 1, 1) := by decide +kernel
theorem dX12_reads_47 : decode cX12_reads 47 = .ok (.bipush 12, 2) := by decide +kernel
theorem dX12_reads_49 : decode cX12_reads 49 = .ok (.if_icmp .ne 7, 3) := by decide +kernel
theorem dX12_reads_52 : decode cX12_reads 52 = .ok (.aload_n 0, 1) := by decide +kernel
theorem dX12_reads_53 : decode cX12_reads 53 = .ok (.invokevirtual 171, 3) := by decide +kernel
theorem dX12_reads_56 : decode cX12_reads 56 = .ok (.aload_n 0, 1) := by decide +kernel
theorem dX12_reads_57 : decode cX12_reads 57 = .ok (.invokevirtual 161, 3) := by decide +kernel
theorem dX12_reads_60 : decode cX12_reads 60 = .ok (.ifCond .eq 7, 3) := by decide +kernel
theorem dX12_reads_63 : decode cX12_reads 63 = .ok (.aload_n 0, 1) := by decide +kernel
theorem dX12_reads_64 : decode cX12_reads 64 = .ok (.invokevirtual 229, 3) := by decide +kernel
theorem dX12_reads_67 : decode cX12_reads 67 = .ok (.iinc 1 1, 3) := by decide +kernel
theorem dX12_reads_70 : decode cX12_reads 70 = .ok (.goto (-36), 3) := by decide +kernel
theorem dX12_reads_73 : decode cX12_reads 73 = .ok (.aload_n 0, 1) := by decide +kernel
theorem dX12_reads_74 : decode cX12_reads 74 = .ok (.invokevirtual 161, 3) := by decide +kernel
theorem dX12_reads_77 : decode cX12_reads 77 = .ok (.ifCond .eq 18, 3) := by decide +kernel
theorem dX12_reads_80 : decode cX12_reads 80 = .ok (.aload_n 0, 1) := by decide +kernel
theorem dX12_reads_81 : decode cX12_reads 81 = .ok (.getfield 165, 3) := by decide +kernel
theorem dX12_reads_84 : decode cX12_reads 84 = .ok (.aload_n 0, 1) := by decide +kernel
theorem dX12_reads_85 : decode cX12_reads 85 = .ok (.getfield 144, 3) := by decide +kernel
theorem dX12_reads_88 : decode cX12_reads 88 = .ok (.if_icmp .ge 7, 3) := by decide +kernel
theorem dX12_reads_91 : decode cX12_reads 91 = .ok (.aload_n 0, 1) := by decide +kernel
theorem dX12_reads_92 : decode cX12_reads 92 = .ok (.invokevirtual 171, 3) := by decide +kernel
theorem dX12_reads_95 : decode cX12_reads 95 = .ok (.aload_n 0, 1) := by decide +kernel
theorem dX12_reads_96 : decode cX12_reads 96 = .ok (.aload_n 0, 1) := by decide +kernel
theorem dX12_reads_97 : decode cX12_reads 97 = .ok (.getfield 158, 3) := by decide +kernel
theorem dX12_reads_100 : decode cX12_reads 100 = .ok (.putfield 47, 3) := by decide +kernel
theorem dX12_reads_103 : decode cX12_reads 103 = .ok (.aload_n 0, 1) := by decide +kernel
theorem dX12_reads_104 : decode cX12_reads 104 = .ok (.invokevirtual 161, 3) := by decide +kernel
theorem dX12_reads_107 : decode cX12_reads 107 = .ok (.ireturn, 1) := by decide +kernel
theorem wt6_177 : Cond.methodLink RX12 226 yX12_splits ∈ kG := kt6 177 rfl rfl
theorem wt6_179 : Cond.instanceMethod yX12_splits ∈ kG := kt6 179 rfl rfl
theorem wp4_2 : Cond.selects RX12 yX12_splits yX12_splits ∈ kG := kp4 2 rfl rfl
theorem wt6_180 : Cond.code yX12_splits cX12_splits 6 none ∈ kG := kt6 180 rfl rfl
theorem wt6_192 : Cond.methodLink RX12 229 yX12_readOne ∈ kG := kt6 192 rfl rfl
theorem wt6_194 : Cond.instanceMethod yX12_readOne ∈ kG := kt6 194 rfl rfl
theorem wp4_4 : Cond.selects RX12 yX12_readOne yX12_readOne ∈ kG := kp4 4 rfl rfl
theorem wt6_195 : Cond.code yX12_readOne cX12_readOne 1 none ∈ kG := kt6 195 rfl rfl
theorem kc_159 : kb 159 159 159 := ⟨by decide +kernel, by decide +kernel⟩
theorem kc_59 : kb 59 59 59 := ⟨by decide +kernel, by decide +kernel⟩
set_option maxHeartbeats 4000000 in
set_option maxRecDepth 100000 in
theorem q_reads  (l : Launch) {D : va_G} {K : Nat → ClassId} (o : Nat) (r : Nat → Nat) (f : Nat → Int32) (a : Nat → Nat → Int32) (g : Nat → Int64) (hI : mI f a)   (ob : Bool) (hp0 : f 10 = (if ob = true then 1 else 0)) (hp1 : f 8 = (if ob = true then 16 else 9)) (hp2 : f 9 = (if ob = true then 22 else 18)) : kI l yX12_reads (Cond.code yX12_reads cX12_reads 2 (some .boolean) :: kG) (rmD 50 0 0) D (tysK K) [.ref o] (mW K o r f a g) (fun v (u : mS) => kb 0 v 1 ∧ mI u.1 u.2.1 ∧ mF (XR []) f a u.1 u.2.1 ∧ u.1 13 = 0 ∧ (∃ (N : Nat) (b : Bool), (u.1 18).toInt = (N : Int) ∧ N ≤ 400 ∧ txR ob (a 11) (f 13).toInt.toNat b (u.1 14) ∧ v = (if b = true then 1 else 0) ∧ (b = true → gG ob (rC (u.2.1 15) N) 8 15 0 N)) ∧ u.2.1 11 = a 11 ∧ fE [13, 14, 18, 19, 20, 21] f u.1) (fun u => mW K o r u.1 u.2.1 u.2.2) 0 0 := by
  refine kI.of (cc := cX12_reads) (maxL := 2) (ret := (some .boolean)) (by decide) rfl (Nat.le_of_ble_eq_true rfl) ?_
  intro p e s m below meth c A hx hb hr hml hown hts hlocks hnm hK hP hD hS hA ls hl
  have hE : mF (XR []) f a f a := mF_rf
  have hg : ∀ w ∈ kG, w.before _ s = true := fun w h => hts w (List.mem_cons_of_mem _ h)
  have hown : s.vm.findClass RX12 = some m.cls := hown
  have hl : lv_has ls 2 [(0, .ref o)] := hl
  have hk0 : fE [13, 14, 18, 19, 20, 21] f f := fE_rf
  obtain ⟨c13, ec13⟩ : ∃ z : Int32, z = f 13 := ⟨_, rfl⟩
  have b1 : kb 0 c13 400 := kb_eq ec13 (fI_at hI.1 13 (by decide) (by decide))
  obtain ⟨S, hSd⟩ : ∃ S : Nat, S = (f 13).toInt.toNat := ⟨_, rfl⟩
  have hcS : c13.toInt = (S : Int) := by have w1 := (b1).1; rw [hSd, ← ec13]; omega
  refine lv_aload_n hx hb dX12_reads_0 rfl (lv_at hl 0 rfl) ?_
  refine lv_aload_n hx hb dX12_reads_1 rfl (lv_at hl 0 rfl) ?_
  refine va_get (D := D) (ci := 12) (v := .int (f 13)) (C := RX12) (T := TX12) (N := 48) hx hb hg inC12 hown hK hP 0 rfl rfl 13 (by decide) (hg _ wt5_173) (fun _ h9 => h9) rfl dX12_reads_2 ?_
  refine k_top (z := c13) ec13.symm ?_
  refine kV.callV (As := [.int c13]) (rest := []) ⟨hx, hb, hml, hown, hg⟩ (q_splits l o r f a g hI c13 b1 S hcS) (cwV 1 hg (kgV wt6_177 wt6_179 wp4_2 wt1_14 wt6_180) rfl rfl rfl (by decide +kernel) ⟨by decide, by decide⟩) hK hP hD hS hA mIs [] rfl (wr := []) rfl rfl rfl (fun i h => by cases h) 0 12 rfl rfl rfl hl.1 rfl (Nat.le_of_ble_eq_true rfl) dX12_reads_5 ⟨Nat.le_refl _, Nat.le_refl _⟩ (fun u4 H locs hw2 hP hD hS => ?_)
  obtain ⟨f5, a6, g7⟩ := u4
  have hP : va_P D vwCl (mW K o r f5 a6 g7) H := hP
  have hD : va_D A (mW K o r f5 a6 g7) := hD
  have hI : mI f5 a6 := hw2.1
  have hE : mF (XR []) f a f5 a6 := mF_tr hE (mF_of hw2.2.1)
  have eE8 : mE (XR []) f a f5 a6 := hw2.2.1
  have hk0 : fE [13, 14, 18, 19, 20, 21] f f5 := fE_tr hk0 (fE_w (by decide) hw2.2.2.1)
  obtain ⟨N, hN1, hN2, hN3, hsp⟩ := hw2.2.2.2
  obtain ⟨tn, etn⟩ : ∃ z : Int32, z = f5 18 := ⟨_, rfl⟩
  have htn : tn.toInt = (N : Int) := by rw [etn]; exact hN1
  have h11 : a6 11 = a 11 := hw2.2.1.2.1
  obtain ⟨T, hTd⟩ : ∃ T : Nat → Int32, T = tkT (a 11) S := ⟨_, rfl⟩
  have hp3 : rQ a6 N T := by rw [hTd]; exact spR_Q hsp
  refine lv_aload_n hx hb dX12_reads_8 rfl (lv_at hl 0 rfl) ?_
  refine lv_iconst (v := 0) hx hb dX12_reads_9 (by decide) ?_
  refine va_put (D := D) (ci := 12) (v := .int 0) (ty := .int) (C := RX12) (T := TX12) (N := 48) hx hb hg inC12 tyX12 tyX12_ok nmX12 hown hK hP hD hS 0 rfl rfl 13 (by decide) (hg _ wt5_173) (fun _ h9 => h9) rfl (by decide +kernel) rfl rfl (Nat.le_of_ble_eq_true rfl) dX12_reads_10 (fun H locs hP hD hS => ?_)
  have hP : va_P D vwCl (mW K o r (upd f5 13 0) a6 g7) H := hP
  have hD : va_D A (mW K o r (upd f5 13 0) a6 g7) := hD
  refine k_gen (P := fun z => va_P D vwCl (mW K o r z a6 g7) H ∧ va_D A (mW K o r z a6 g7) ∧ (mI z a6) ∧ (mF (XR []) f a z a6) ∧ (fE [13, 14, 18, 19, 20, 21] f z)) (upd f5 13 0) ⟨hP, hD, (mI_f hI (fI_st hI.1 13 kc_0 (by decide) (by decide))), (mF_f hE), (fE_f hk0 (by decide))⟩ (fun f_9 ef_9 hq => ?_)
  obtain ⟨hP, hD, hI, hE, hk0⟩ := hq
  refine lv_aload_n hx hb dX12_reads_13 rfl (lv_at hl 0 rfl) ?_
  refine lv_iconst (v := 0) hx hb dX12_reads_14 (by decide) ?_
  refine va_put (D := D) (ci := 12) (v := .int 0) (ty := .int) (C := RX12) (T := TX12) (N := 48) hx hb hg inC12 tyX12 tyX12_ok nmX12 hown hK hP hD hS 0 rfl rfl 19 (by decide) (hg _ wt5_179) (fun _ h9 => h9) rfl (by decide +kernel) rfl rfl (Nat.le_of_ble_eq_true rfl) dX12_reads_15 (fun H locs hP hD hS => ?_)
  have hP : va_P D vwCl (mW K o r (upd f_9 19 0) a6 g7) H := hP
  have hD : va_D A (mW K o r (upd f_9 19 0) a6 g7) := hD
  refine k_gen (P := fun z => va_P D vwCl (mW K o r z a6 g7) H ∧ va_D A (mW K o r z a6 g7) ∧ (mI z a6) ∧ (mF (XR []) f a z a6) ∧ (fE [13, 14, 18, 19, 20, 21] f z)) (upd f_9 19 0) ⟨hP, hD, (mI_f hI (fI_st hI.1 19 kc_0 (by decide) (by decide))), (mF_f hE), (fE_f hk0 (by decide))⟩ (fun f_10 ef_10 hq => ?_)
  obtain ⟨hP, hD, hI, hE, hk0⟩ := hq
  refine lv_aload_n hx hb dX12_reads_18 rfl (lv_at hl 0 rfl) ?_
  refine lv_iconst (v := 0) hx hb dX12_reads_19 (by decide) ?_
  refine va_put (D := D) (ci := 12) (v := .int 0) (ty := .int) (C := RX12) (T := TX12) (N := 48) hx hb hg inC12 tyX12 tyX12_ok nmX12 hown hK hP hD hS 0 rfl rfl 20 (by decide) (hg _ wt5_180) (fun _ h9 => h9) rfl (by decide +kernel) rfl rfl (Nat.le_of_ble_eq_true rfl) dX12_reads_20 (fun H locs hP hD hS => ?_)
  have hP : va_P D vwCl (mW K o r (upd f_10 20 0) a6 g7) H := hP
  have hD : va_D A (mW K o r (upd f_10 20 0) a6 g7) := hD
  refine k_gen (P := fun z => va_P D vwCl (mW K o r z a6 g7) H ∧ va_D A (mW K o r z a6 g7) ∧ (mI z a6) ∧ (mF (XR []) f a z a6) ∧ (fE [13, 14, 18, 19, 20, 21] f z)) (upd f_10 20 0) ⟨hP, hD, (mI_f hI (fI_st hI.1 20 (kb_any _) (by decide) (by decide))), (mF_f hE), (fE_f hk0 (by decide))⟩ (fun f_11 ef_11 hq => ?_)
  obtain ⟨hP, hD, hI, hE, hk0⟩ := hq
  refine lv_aload_n hx hb dX12_reads_23 rfl (lv_at hl 0 rfl) ?_
  refine lv_iconst (v := (-1)) hx hb dX12_reads_24 (by decide) ?_
  refine va_put (D := D) (ci := 12) (v := .int (-1)) (ty := .int) (C := RX12) (T := TX12) (N := 48) hx hb hg inC12 tyX12 tyX12_ok nmX12 hown hK hP hD hS 0 rfl rfl 21 (by decide) (hg _ wt5_181) (fun _ h9 => h9) rfl (by decide +kernel) rfl rfl (Nat.le_of_ble_eq_true rfl) dX12_reads_25 (fun H locs hP hD hS => ?_)
  have hP : va_P D vwCl (mW K o r (upd f_11 21 (-1)) a6 g7) H := hP
  have hD : va_D A (mW K o r (upd f_11 21 (-1)) a6 g7) := hD
  refine k_gen (P := fun z => va_P D vwCl (mW K o r z a6 g7) H ∧ va_D A (mW K o r z a6 g7) ∧ (mI z a6) ∧ (mF (XR []) f a z a6) ∧ (fE [13, 14, 18, 19, 20, 21] f z)) (upd f_11 21 (-1)) ⟨hP, hD, (mI_f hI (fI_st hI.1 21 (kb_any _) (by decide) (by decide))), (mF_f hE), (fE_f hk0 (by decide))⟩ (fun f_12 ef_12 hq => ?_)
  obtain ⟨hP, hD, hI, hE, hk0⟩ := hq
  have hk1 : rS f_12 a6 N ob := ⟨by rw [((show f_12 18 = f_11 18 from by rw [← ef_12]; rfl).trans ((show f_11 18 = f_10 18 from by rw [← ef_11]; rfl).trans ((show f_10 18 = f_9 18 from by rw [← ef_10]; rfl).trans ((show f_9 18 = f5 18 from by rw [← ef_9]; rfl).trans etn.symm))))]; exact htn, hN2, hN3, by rw [hk0 10 (by decide)]; exact hp0, by rw [hk0 8 (by decide)]; exact hp1, by rw [hk0 9 (by decide)]; exact hp2⟩
  have hk2 : f_12 13 = 0 := ((show f_12 13 = f_11 13 from by rw [← ef_12]; rfl).trans ((show f_11 13 = f_10 13 from by rw [← ef_11]; rfl).trans ((show f_10 13 = f_9 13 from by rw [← ef_10]; rfl).trans (show f_9 13 = 0 from by rw [← ef_9]; rfl))))
  refine lv_aload_n hx hb dX12_reads_28 rfl (lv_at hl 0 rfl) ?_
  refine kV.callV (As := []) (rest := []) ⟨hx, hb, hml, hown, hg⟩ (q_readOne l o r f_12 a6 g7 hI   N (0) (0) ob T hk1 (by rw [((show f_12 19 = f_11 19 from by rw [← ef_12]; rfl).trans ((show f_11 19 = f_10 19 from by rw [← ef_11]; rfl).trans (show f_10 19 = 0 from by rw [← ef_10]; rfl)))]; exact (by decide +kernel)) (Nat.zero_le N) hp3 (fun _ => ⟨(by rw [((show f_12 20 = f_11 20 from by rw [← ef_12]; rfl).trans (show f_11 20 = 0 from by rw [← ef_11]; rfl))]; exact (by decide +kernel)), (by decide)⟩)) (cwV 0 hg (kgV wt6_192 wt6_194 wp4_4 wt1_14 wt6_195) rfl rfl rfl (by decide +kernel) ⟨by decide, by decide⟩) hK hP hD hS hA mIs [] rfl (wr := []) rfl rfl rfl (fun i h => by cases h) 0 12 rfl rfl rfl hl.1 rfl (Nat.le_of_ble_eq_true rfl) dX12_reads_29 ⟨Nat.le_refl _, Nat.le_refl _⟩ (fun u15 H locs hw13 hP hD hS => ?_)
  have hP : va_P D vwCl (mW K o r u15 a6 g7) H := hP
  have hD : va_D A (mW K o r u15 a6 g7) := hD
  have hI : mI u15 a6 := hw13.1
  have eE16 : fE [19, 20, 21] f_12 u15 := hw13.2.1
  have hE : mF (XR []) f a u15 a6 := mF_fE hE eE16 (by decide)
  have hk0 : fE [13, 14, 18, 19, 20, 21] f u15 := fE_tr hk0 (fE_w (by decide) eE16)
  have hk1 : rS u15 a6 N ob := rS_fE eE16 hk1 (by decide)
  have hk2 : u15 13 = 0 := (eE16 13 (by decide)).trans hk2
  obtain ⟨ik17, nk17, hgk17, hlek17, hNk17, hck17⟩ := hw13.2.2
  rcases hck17 with ⟨-, h2k17, h3k17, hGk17⟩ | ⟨-, hbk17, hGk17⟩ | hdk17
  · obtain ⟨gv18, egv18⟩ : ∃ z : Int32, z = u15 19 := ⟨_, rfl⟩
    have hg19 : gv18.toInt = ((ik17 : Nat) : Int) := by rw [egv18]; exact hgk17
    have b20 : kb 0 gv18 400 := kb_tok hk1 hNk17 hg19
    obtain ⟨z21, ez21⟩ : ∃ z : Int32, z = u15 20 := ⟨_, rfl⟩
    have hzz21 : z21.toInt = (nk17 : Int) := by rw [ez21]; exact h3k17.1
    refine lv_iconst (v := 1) hx hb dX12_reads_32 (by decide) ?_
    refine lv_istore_n (lv' := [(1, .int 1), (0, .ref o)]) hx hb dX12_reads_33 rfl hl (by decide) rfl (fun ls hl => ?_)
    have lp24 : ∀ (n25 : Nat) (i3 : Nat) (n3 : Nat) (cn : Nat) (F23 : Nat → Int32) (H : Heap) (locs : List Loc) (ls : Array Slot) (y22 : Int32), ((N : Int) < (i3 : Int) + (n25 : Int)) → (mI F23 a6) → (mF (XR []) f a F23 a6) → (fE [13, 14, 18, 19, 20, 21] f F23) → (rS F23 a6 N ob) → (F23 13 = 0) → (kb 1 y22 13) → ((F23 19).toInt = (i3 : Int)) → (i3 ≤ N) → ((F23 21 = -1 ∧ ((F23 20).toInt = (n3 : Int) ∧ n3 ≤ 50) ∧ (y22.toInt = (cn : Int) ∧ 1 ≤ cn ∧ cn ≤ 12) ∧ ∀ r, pC ob T N (12 - cn) i3 n3 r → pT ob T N 12 0 0 r) ∨ ((F23 21 = a6 17 i3 ∧ ¬ F23 21 = -1) ∧ pT ob T N 12 0 0 (false, i3))) → va_P D vwCl (mW K o r F23 a6 g7) H → va_D A (mW K o r F23 a6 g7) → va_S A s.heap H locs → lv_has ls 2 [(1, .int y22), (0, .ref o)] → W p l e (rmD 50 0 0) s m ([.ref o] : List Value).toArray below meth c H locs 0 0 (kQi D (tysK K) (fun v (u : mS) => kb 0 v 1 ∧ mI u.1 u.2.1 ∧ mF (XR []) f a u.1 u.2.1 ∧ u.1 13 = 0 ∧ (∃ (N : Nat) (b : Bool), (u.1 18).toInt = (N : Int) ∧ N ≤ 400 ∧ txR ob (a 11) (f 13).toInt.toNat b (u.1 14) ∧ v = (if b = true then 1 else 0) ∧ (b = true → gG ob (rC (u.2.1 15) N) 8 15 0 N)) ∧ u.2.1 11 = a 11 ∧ fE [13, 14, 18, 19, 20, 21] f u.1) (fun u => mW K o r u.1 u.2.1 u.2.2) A below ([.ref o] : List Value).toArray s 0 0) (F0 m 34 ls []) := by
      intro n25
      induction n25 with
      | zero =>
        intro i3 n3 cn F23  H locs ls y22 hmlp24 hI hE hk0 hk1 hk2 b26 hvlp24_0 hvlp24_1 hvlp24_2 hP hD hS hl
        exact (by have w1 := hmlp24; have w2 := hvlp24_1; omega : False).elim
      | succ n25 ihlp24 =>
        intro i3 n3 cn F23  H locs ls y22 hmlp24 hI hE hk0 hk1 hk2 b26 hvlp24_0 hvlp24_1 hvlp24_2 hP hD hS hl
        obtain ⟨gv27, egv27⟩ : ∃ z : Int32, z = F23 19 := ⟨_, rfl⟩
        have hg28 : gv27.toInt = ((i3 : Nat) : Int) := by rw [egv27]; exact hvlp24_0
        have b29 : kb 0 gv27 400 := kb_tok hk1 hvlp24_1 hg28
        rcases hvlp24_2 with ⟨h2x, h3x, hcn, xc⟩ | ⟨hbd, xb⟩
        · obtain ⟨z30, ez30⟩ : ∃ z : Int32, z = F23 20 := ⟨_, rfl⟩
          have hzz30 : z30.toInt = (n3 : Int) := by rw [ez30]; exact h3x.1
          have b31 : kb 1 y22 12 := ⟨by omega, by omega⟩
          refine lv_aload_n hx hb dX12_reads_34 rfl (lv_at hl 1 rfl) ?_
          refine lv_bipush (v := 59) hx hb dX12_reads_35 (by decide) ?_
          refine kN.callS (As := [.int 59]) (rest := [.ref o]) ⟨hx, hb, hml, hown, hg⟩ (m_sign l 59 (kb_w kc_59 (by decide) (by decide))) (va_cwS 1 hg (kgS wt6_220 wt6_221 wt1_14 wt6_222) rfl rfl rfl (by decide +kernel) ⟨by decide, by decide⟩) hP hS rfl hl.1 rfl (Nat.le_of_ble_eq_true rfl) dX12_reads_37 ⟨Nat.le_refl _, Nat.le_refl _⟩ (fun v33 H locs hw32 hP hS => ?_)
          refine k_top (z := 159) (Int32.toInt_inj.mp (hw32.2.trans (by decide +kernel))) ?_
          refine kI.callV (As := [.int 159]) (rest := []) ⟨hx, hb, hml, hown, hg⟩ (q_takes0 l o r F23 a6 g7 hI 159 (kb_w kc_159 (by decide) (by decide)) N (i3) ob T hk1 (by rw [egv27.symm]; exact hg28) hvlp24_1 hp3 (by decide +kernel)) (cwV 1 hg (kgV wt6_200 wt6_202 wp4_6 wt1_14 wt6_203) rfl rfl rfl (by decide +kernel) ⟨by decide, by decide⟩) hK hP hD hS hA mIs [] rfl (wr := []) rfl rfl rfl (fun i h => by cases h) 0 12 rfl rfl rfl hl.1 rfl (Nat.le_of_ble_eq_true rfl) dX12_reads_40 ⟨Nat.le_refl _, Nat.le_refl _⟩ (fun v36 u37 H locs hw35 hP hD hS => ?_)
          have hP : va_P D vwCl (mW K o r u37 a6 g7) H := hP
          have hD : va_D A (mW K o r u37 a6 g7) := hD
          have hI : mI u37 a6 := hw35.2.1
          have eE38 : fE [19] F23 u37 := hw35.2.2.1
          have hE : mF (XR []) f a u37 a6 := mF_fE hE eE38 (by decide)
          have hk0 : fE [13, 14, 18, 19, 20, 21] f u37 := fE_tr hk0 (fE_w (by decide) eE38)
          have hk1 : rS u37 a6 N ob := rS_fE eE38 hk1 (by decide)
          have hk2 : u37 13 = 0 := (eE38 13 (by decide)).trans hk2
          rcases hw35.2.2.2 with ⟨hvk39, hbk39, htk39, hpk39, hlk39⟩ | ⟨hvk39, hnk39, hpk39⟩
          · refine k_top (z := 1) hvk39 ?_
            obtain ⟨gv40, egv40⟩ : ∃ z : Int32, z = u37 19 := ⟨_, rfl⟩
            have hg41 : gv40.toInt = ((i3 + 1 : Nat) : Int) := by rw [egv40]; exact hpk39
            have b42 : kb 0 gv40 400 := kb_tok hk1 hlk39 hg41
            have hTk39 : T (i3) = 3059 := htk39.trans (by decide +kernel)
            refine lv_if_eq (tgt := 73) hx hb dX12_reads_43 (by decide) (fun c43 => ?_) (fun c43 => ?_)
            · exact kb_dj c43 kc_1 kc_0 (by decide)
            · refine lv_iload_n hx hb dX12_reads_46 rfl (lv_at hl 0 rfl) ?_
              refine lv_bipush (v := 12) hx hb dX12_reads_47 (by decide) ?_
              refine lv_icmp_ne (tgt := 56) hx hb dX12_reads_49 (by decide) (fun c44 => ?_) (fun c44 => ?_)
              · have b45 : kb 1 y22 11 := kr_neh c44 b31 kc_12 (by decide)
                refine lv_aload_n hx hb dX12_reads_56 rfl (lv_at hl 1 rfl) ?_
                refine kI.callV (As := []) (rest := []) ⟨hx, hb, hml, hown, hg⟩ (m_fine l o r u37 a6 g7 hI   ) (cwV 0 hg (kgV wt6_204 wt6_206 wp4_7 wt1_14 wt6_207) rfl rfl rfl (by decide +kernel) ⟨by decide, by decide⟩) hK hP hD hS hA mIs [] rfl (wr := []) rfl rfl rfl (fun i h => by cases h) 0 12 rfl rfl rfl hl.1 rfl (Nat.le_of_ble_eq_true rfl) dX12_reads_57 ⟨Nat.le_refl _, Nat.le_refl _⟩ (fun v47 u48 H locs hw46 hP hD hS => ?_)
                have hP : va_P D vwCl (mW K o r u37 a6 g7) H := hP
                have hD : va_D A (mW K o r u37 a6 g7) := hD
                refine k_top (z := 1) ((hw46.2).elim (fun q => q.1) (fun q => absurd ((eE38 21 (by decide)).trans h2x) q.2)) ?_
                refine lv_if_eq (tgt := 67) hx hb dX12_reads_60 (by decide) (fun c49 => ?_) (fun c49 => ?_)
                · exact kb_dj c49 kc_1 kc_0 (by decide)
                · refine lv_aload_n hx hb dX12_reads_63 rfl (lv_at hl 1 rfl) ?_
                  refine kV.callV (As := []) (rest := []) ⟨hx, hb, hml, hown, hg⟩ (q_readOne l o r u37 a6 g7 hI   N (i3 + 1) (n3) ob T hk1 (by rw [egv40.symm]; exact hg41) hlk39 hp3 (fun _ => ⟨(by rw [((eE38 20 (by decide)).trans ez30.symm)]; exact hzz30), h3x.2⟩)) (cwV 0 hg (kgV wt6_192 wt6_194 wp4_4 wt1_14 wt6_195) rfl rfl rfl (by decide +kernel) ⟨by decide, by decide⟩) hK hP hD hS hA mIs [] rfl (wr := []) rfl rfl rfl (fun i h => by cases h) 0 12 rfl rfl rfl hl.1 rfl (Nat.le_of_ble_eq_true rfl) dX12_reads_64 ⟨Nat.le_refl _, Nat.le_refl _⟩ (fun u52 H locs hw50 hP hD hS => ?_)
                  have hP : va_P D vwCl (mW K o r u52 a6 g7) H := hP
                  have hD : va_D A (mW K o r u52 a6 g7) := hD
                  have hI : mI u52 a6 := hw50.1
                  have eE53 : fE [19, 20, 21] u37 u52 := hw50.2.1
                  have hE : mF (XR []) f a u52 a6 := mF_fE hE eE53 (by decide)
                  have hk0 : fE [13, 14, 18, 19, 20, 21] f u52 := fE_tr hk0 (fE_w (by decide) eE53)
                  have hk1 : rS u52 a6 N ob := rS_fE eE53 hk1 (by decide)
                  have hk2 : u52 13 = 0 := (eE53 13 (by decide)).trans hk2
                  obtain ⟨ik54, nk54, hgk54, hlek54, hNk54, hck54⟩ := hw50.2.2
                  rcases hck54 with ⟨-, h2k54, h3k54, hGk54⟩ | ⟨-, hbk54, hGk54⟩ | hdk54
                  · obtain ⟨gv55, egv55⟩ : ∃ z : Int32, z = u52 19 := ⟨_, rfl⟩
                    have hg56 : gv55.toInt = ((ik54 : Nat) : Int) := by rw [egv55]; exact hgk54
                    have b57 : kb 0 gv55 400 := kb_tok hk1 hNk54 hg56
                    obtain ⟨z58, ez58⟩ : ∃ z : Int32, z = u52 20 := ⟨_, rfl⟩
                    have hzz58 : z58.toInt = (nk54 : Int) := by rw [ez58]; exact h3k54.1
                    obtain ⟨t59, et59⟩ : ∃ z : Int32, z = y22 + Int32.ofInt 1 := ⟨_, rfl⟩
                    have qt59 : t59.toInt = y22.toInt + 1 := by rw [et59]; exact km_inc b45 (by decide) (by decide)
                    have b60 : kb 2 t59 12 := kb_inc (k := 1) qt59 b45
                    refine lv_iinc (v := t59) (lv' := [(1, .int t59), (0, .ref o)]) hx hb dX12_reads_67 hl (k := 0) rfl et59.symm (by decide) rfl (fun ls hl => ?_)
                    refine lv_goto (tgt := 34) hx hb dX12_reads_70 (by decide) ?_
                    exact ihlp24 (ik54) (nk54) (cn + 1) u52 _ _ _ t59 (by omega) hI hE hk0 hk1 hk2 (kb_w b60 (by decide) (by decide)) (by rw [egv55.symm]; exact hg56) (hNk54) (Or.inl ⟨h2k54, ⟨(by rw [ez58.symm]; exact hzz58), h3k54.2⟩, ⟨by have w1 := hcn; omega, by omega, by have w1 := hcn; have w2 := (b45).2; omega⟩, fun r h => xc r (Or.inl ⟨hTk39, c12 (by have w1 := hcn; have w2 := (b45).2; omega) (pT_s hGk54 h)⟩)⟩) hP hD hS (lv_sub hl [0, 1] rfl)
                  · obtain ⟨gv61, egv61⟩ : ∃ z : Int32, z = u52 19 := ⟨_, rfl⟩
                    have hg62 : gv61.toInt = ((ik54 : Nat) : Int) := by rw [egv61]; exact hgk54
                    have b63 : kb 0 gv61 400 := kb_tok hk1 hNk54 hg62
                    obtain ⟨z64, ez64⟩ : ∃ z : Int32, z = u52 21 := ⟨_, rfl⟩
                    have haz64 : z64 = a6 17 (ik54) := by rw [ez64]; exact hbk54.1
                    have hnz64 : ¬ z64 = -1 := by rw [ez64]; exact hbk54.2
                    obtain ⟨t65, et65⟩ : ∃ z : Int32, z = y22 + Int32.ofInt 1 := ⟨_, rfl⟩
                    have qt65 : t65.toInt = y22.toInt + 1 := by rw [et65]; exact km_inc b45 (by decide) (by decide)
                    have b66 : kb 2 t65 12 := kb_inc (k := 1) qt65 b45
                    refine lv_iinc (v := t65) (lv' := [(1, .int t65), (0, .ref o)]) hx hb dX12_reads_67 hl (k := 0) rfl et65.symm (by decide) rfl (fun ls hl => ?_)
                    refine lv_goto (tgt := 34) hx hb dX12_reads_70 (by decide) ?_
                    exact ihlp24 (ik54) (0) (cn + 1) u52 _ _ _ t65 (by omega) hI hE hk0 hk1 hk2 (kb_w b66 (by decide) (by decide)) (by rw [egv61.symm]; exact hg62) (hNk54) (Or.inr ⟨⟨(ez64.symm).trans haz64, (fun q => hnz64 ((ez64.symm).symm.trans q))⟩, xc _ (Or.inl ⟨hTk39, c12 (by have w1 := hcn; have w2 := (b45).2; omega) (pT_f hGk54)⟩)⟩) hP hD hS (lv_sub hl [0, 1] rfl)
                  · exact absurd ((eE38 21 (by decide)).trans h2x) hdk54.1
              · have b67 : kb 12 y22 12 := kb_eq c44 kc_12
                refine lv_aload_n hx hb dX12_reads_52 rfl (lv_at hl 1 rfl) ?_
                refine kV.callV (As := []) (rest := []) ⟨hx, hb, hml, hown, hg⟩ (q_faults l o r u37 a6 g7 hI   N (i3 + 1) ob T hk1 (by rw [egv40.symm]; exact hg41) hlk39 hp3) (cwV 0 hg (kgV wt6_223 wt6_225 wp4_11 wt1_14 wt6_226) rfl rfl rfl (by decide +kernel) ⟨by decide, by decide⟩) hK hP hD hS hA mIs [] rfl (wr := []) rfl rfl rfl (fun i h => by cases h) 0 12 rfl rfl rfl hl.1 rfl (Nat.le_of_ble_eq_true rfl) dX12_reads_53 ⟨Nat.le_refl _, Nat.le_refl _⟩ (fun u70 H locs hw68 hP hD hS => ?_)
                have hP : va_P D vwCl (mW K o r u70 a6 g7) H := hP
                have hD : va_D A (mW K o r u70 a6 g7) := hD
                have hI : mI u70 a6 := hw68.1
                have eE71 : fE [21] u37 u70 := hw68.2.1
                have hE : mF (XR []) f a u70 a6 := mF_fE hE eE71 (by decide)
                have hk0 : fE [13, 14, 18, 19, 20, 21] f u70 := fE_tr hk0 (fE_w (by decide) eE71)
                have hk1 : rS u70 a6 N ob := rS_fE eE71 hk1 (by decide)
                have hk2 : u70 13 = 0 := (eE71 13 (by decide)).trans hk2
                obtain ⟨z72, ez72⟩ : ∃ z : Int32, z = u70 21 := ⟨_, rfl⟩
                have haz72 : z72 = a6 17 (i3 + 1) := by rw [ez72]; exact (hw68.2.2.1 ((eE38 21 (by decide)).trans h2x)).1
                have hnz72 : ¬ z72 = -1 := by rw [ez72]; exact (hw68.2.2.1 ((eE38 21 (by decide)).trans h2x)).2
                refine lv_aload_n hx hb dX12_reads_56 rfl (lv_at hl 1 rfl) ?_
                refine kI.callV (As := []) (rest := []) ⟨hx, hb, hml, hown, hg⟩ (m_fine l o r u70 a6 g7 hI   ) (cwV 0 hg (kgV wt6_204 wt6_206 wp4_7 wt1_14 wt6_207) rfl rfl rfl (by decide +kernel) ⟨by decide, by decide⟩) hK hP hD hS hA mIs [] rfl (wr := []) rfl rfl rfl (fun i h => by cases h) 0 12 rfl rfl rfl hl.1 rfl (Nat.le_of_ble_eq_true rfl) dX12_reads_57 ⟨Nat.le_refl _, Nat.le_refl _⟩ (fun v74 u75 H locs hw73 hP hD hS => ?_)
                have hP : va_P D vwCl (mW K o r u70 a6 g7) H := hP
                have hD : va_D A (mW K o r u70 a6 g7) := hD
                refine k_top (z := 0) ((hw73.2).elim (fun q => absurd q.2 (fun q => hnz72 ((ez72.symm).symm.trans q))) (fun q => q.1)) ?_
                refine lv_if_eq (tgt := 67) hx hb dX12_reads_60 (by decide) (fun c76 => ?_) (fun c76 => ?_)
                · obtain ⟨t77, et77⟩ : ∃ z : Int32, z = y22 + Int32.ofInt 1 := ⟨_, rfl⟩
                  have qt77 : t77.toInt = y22.toInt + 1 := by rw [et77]; exact km_inc b67 (by decide) (by decide)
                  have b78 : kb 13 t77 13 := kb_inc (k := 1) qt77 b67
                  refine lv_iinc (v := t77) (lv' := [(1, .int t77), (0, .ref o)]) hx hb dX12_reads_67 hl (k := 0) rfl et77.symm (by decide) rfl (fun ls hl => ?_)
                  refine lv_goto (tgt := 34) hx hb dX12_reads_70 (by decide) ?_
                  exact ihlp24 (i3 + 1) (0) (cn + 1) u70 _ _ _ t77 (by omega) hI hE hk0 hk1 hk2 (kb_w b78 (by decide) (by decide)) (by rw [((eE71 19 (by decide)).trans egv40.symm)]; exact hg41) (hlk39) (Or.inr ⟨⟨(ez72.symm).trans haz72, (fun q => hnz72 ((ez72.symm).symm.trans q))⟩, xc _ (Or.inl ⟨hTk39, by have w1 := hcn; have w2 := congrArg Int32.toInt c44; have w3 : (12 : Int32).toInt = 12 := (by decide +kernel); rw [show 12 - cn = 0 by omega]; exact rfl⟩)⟩) hP hD hS (lv_sub hl [0, 1] rfl)
                · exact kb_nsame c76 kc_0 kc_0
          · refine k_top (z := 0) hvk39 ?_
            obtain ⟨gv79, egv79⟩ : ∃ z : Int32, z = u37 19 := ⟨_, rfl⟩
            have hg80 : gv79.toInt = ((i3 : Nat) : Int) := by rw [egv79]; exact hpk39
            have b81 : kb 0 gv79 400 := kb_tok hk1 hvlp24_1 hg80
            have hTk39 : ¬ T (i3) = 3059 := fun q => (hnk39 h2x) (q.trans (by decide +kernel))
            refine lv_if_eq (tgt := 73) hx hb dX12_reads_43 (by decide) (fun c82 => ?_) (fun c82 => ?_)
            · refine lv_aload_n hx hb dX12_reads_73 rfl (lv_at hl 1 rfl) ?_
              refine kI.callV (As := []) (rest := []) ⟨hx, hb, hml, hown, hg⟩ (m_fine l o r u37 a6 g7 hI   ) (cwV 0 hg (kgV wt6_204 wt6_206 wp4_7 wt1_14 wt6_207) rfl rfl rfl (by decide +kernel) ⟨by decide, by decide⟩) hK hP hD hS hA mIs [] rfl (wr := []) rfl rfl rfl (fun i h => by cases h) 0 12 rfl rfl rfl hl.1 rfl (Nat.le_of_ble_eq_true rfl) dX12_reads_74 ⟨Nat.le_refl _, Nat.le_refl _⟩ (fun v84 u85 H locs hw83 hP hD hS => ?_)
              have hP : va_P D vwCl (mW K o r u37 a6 g7) H := hP
              have hD : va_D A (mW K o r u37 a6 g7) := hD
              refine k_top (z := 1) ((hw83.2).elim (fun q => q.1) (fun q => absurd ((eE38 21 (by decide)).trans h2x) q.2)) ?_
              refine lv_if_eq (tgt := 95) hx hb dX12_reads_77 (by decide) (fun c86 => ?_) (fun c86 => ?_)
              · exact kb_dj c86 kc_1 kc_0 (by decide)
              · refine lv_aload_n hx hb dX12_reads_80 rfl (lv_at hl 1 rfl) ?_
                refine va_get (D := D) (ci := 12) (v := .int (u37 19)) (C := RX12) (T := TX12) (N := 48) hx hb hg inC12 hown hK hP 0 rfl rfl 19 (by decide) (hg _ wt5_179) (fun _ h9 => h9) rfl dX12_reads_81 ?_
                refine k_top (z := gv79) egv79.symm ?_
                refine lv_aload_n hx hb dX12_reads_84 rfl (lv_at hl 1 rfl) ?_
                refine va_get (D := D) (ci := 12) (v := .int (u37 18)) (C := RX12) (T := TX12) (N := 48) hx hb hg inC12 hown hK hP 0 rfl rfl 18 (by decide) (hg _ wt5_178) (fun _ h9 => h9) rfl dX12_reads_85 ?_
                refine lv_topi (fun t87 et87 => ?_)
                have b88 : kb 0 t87 400 := kb_eq et87 (fI_at hI.1 18 (by decide) (by decide))
                refine lv_icmp_ge (tgt := 95) hx hb dX12_reads_88 (by decide) (fun c89 => ?_) (fun c89 => ?_)
                · have h90 := (kc_le c89)
                  have ht18 : t87.toInt = (N : Int) := by rw [et87]; exact hk1.1
                  have hel : ¬ i3 < N := by have w1 := hg80; have w2 := htn; first | (have w3 := kc_le c89; omega) | (have w3 := kc_nlt c89; omega)
                  refine lv_aload_n hx hb dX12_reads_95 rfl (lv_at hl 1 rfl) ?_
                  refine lv_aload_n hx hb dX12_reads_96 rfl (lv_at hl 1 rfl) ?_
                  refine va_get (D := D) (ci := 12) (v := .int (u37 21)) (C := RX12) (T := TX12) (N := 48) hx hb hg inC12 hown hK hP 0 rfl rfl 21 (by decide) (hg _ wt5_181) (fun _ h9 => h9) rfl dX12_reads_97 ?_
                  refine k_top (z := (-1)) ((eE38 21 (by decide)).trans h2x) ?_
                  refine va_put (D := D) (ci := 12) (v := .int (-1)) (ty := .int) (C := RX12) (T := TX12) (N := 48) hx hb hg inC12 tyX12 tyX12_ok nmX12 hown hK hP hD hS 0 rfl rfl 14 (by decide) (hg _ wt5_174) (fun _ h9 => h9) rfl (by decide +kernel) rfl rfl (Nat.le_of_ble_eq_true rfl) dX12_reads_100 (fun H locs hP hD hS => ?_)
                  have hP : va_P D vwCl (mW K o r (upd u37 14 (-1)) a6 g7) H := hP
                  have hD : va_D A (mW K o r (upd u37 14 (-1)) a6 g7) := hD
                  refine k_gen (P := fun z => va_P D vwCl (mW K o r z a6 g7) H ∧ va_D A (mW K o r z a6 g7) ∧ (mI z a6) ∧ (mF (XR []) f a z a6) ∧ (fE [13, 14, 18, 19, 20, 21] f z) ∧ (rS z a6 N ob) ∧ (z 13 = 0)) (upd u37 14 (-1)) ⟨hP, hD, (mI_f hI (fI_st hI.1 14 (kb_any _) (by decide) (by decide))), (mF_f hE), (fE_f hk0 (by decide)), (rS_f hk1 (by decide) (by decide) (by decide) (by decide)), ((pk_un (by decide)).trans hk2)⟩ (fun f_91 ef_91 hq => ?_)
                  obtain ⟨hP, hD, hI, hE, hk0, hk1, hk2⟩ := hq
                  refine lv_aload_n hx hb dX12_reads_103 rfl (lv_at hl 1 rfl) ?_
                  refine kI.callV (As := []) (rest := []) ⟨hx, hb, hml, hown, hg⟩ (m_fine l o r f_91 a6 g7 hI   ) (cwV 0 hg (kgV wt6_204 wt6_206 wp4_7 wt1_14 wt6_207) rfl rfl rfl (by decide +kernel) ⟨by decide, by decide⟩) hK hP hD hS hA mIs [] rfl (wr := []) rfl rfl rfl (fun i h => by cases h) 0 12 rfl rfl rfl hl.1 rfl (Nat.le_of_ble_eq_true rfl) dX12_reads_104 ⟨Nat.le_refl _, Nat.le_refl _⟩ (fun v93 u94 H locs hw92 hP hD hS => ?_)
                  have hP : va_P D vwCl (mW K o r f_91 a6 g7) H := hP
                  have hD : va_D A (mW K o r f_91 a6 g7) := hD
                  refine k_top (z := 1) ((hw92.2).elim (fun q => q.1) (fun q => absurd ((show f_91 21 = u37 21 from by rw [← ef_91]; rfl).trans ((eE38 21 (by decide)).trans h2x)) q.2)) ?_
                  exact kI_ret (v := 1) hx hb hr hlocks (by decide +kernel) hK hS dX12_reads_107 (f_91, a6, g7) hP hD ⟨(kb_w kc_1 (by decide) (by decide)), hI, hE, hk2, ⟨N, true, (hk1).1, hN2, (show txR ob (a 11) (f 13).toInt.toNat true (f_91 14) from (by rw [← hSd]; exact ⟨N, i3, hsp.1, fun i hi => (hsp.2.1 i hi).1, (by rw [← hTd]; exact (xc _ (Or.inr (Or.inr ⟨hTk39, hel, rfl⟩)))), (show f_91 14 = (-1) from by rw [← ef_91]; rfl)⟩)), rfl, fun _ => by have w1 := (pTG (rQ_all hp3) _ _ _ _ (xc _ (Or.inr (Or.inr ⟨hTk39, hel, rfl⟩)))).1; have w2 := hel; have w3 : i3 = N := (by have w4 := hvlp24_1; omega); rw [w3] at w1; exact w1⟩, h11, hk0⟩
                · have h95 := (kc_nle c89)
                  have b96 : kb 0 gv79 399 := kr_lt1 h95 b81 b88 (by decide)
                  have b97 : kb 1 t87 400 := kr_lt2 h95 b81 b88 (by decide)
                  have ht18 : t87.toInt = (N : Int) := by rw [et87]; exact hk1.1
                  have hel : i3 < N := by have w1 := hg80; have w2 := htn; first | (have w3 := kc_nle c89; omega) | (have w3 := kc_lt c89; omega)
                  refine lv_aload_n hx hb dX12_reads_91 rfl (lv_at hl 1 rfl) ?_
                  refine kV.callV (As := []) (rest := []) ⟨hx, hb, hml, hown, hg⟩ (q_faults l o r u37 a6 g7 hI   N (i3) ob T hk1 (by rw [egv79.symm]; exact hg80) hvlp24_1 hp3) (cwV 0 hg (kgV wt6_223 wt6_225 wp4_11 wt1_14 wt6_226) rfl rfl rfl (by decide +kernel) ⟨by decide, by decide⟩) hK hP hD hS hA mIs [] rfl (wr := []) rfl rfl rfl (fun i h => by cases h) 0 12 rfl rfl rfl hl.1 rfl (Nat.le_of_ble_eq_true rfl) dX12_reads_92 ⟨Nat.le_refl _, Nat.le_refl _⟩ (fun u100 H locs hw98 hP hD hS => ?_)
                  have hP : va_P D vwCl (mW K o r u100 a6 g7) H := hP
                  have hD : va_D A (mW K o r u100 a6 g7) := hD
                  have hI : mI u100 a6 := hw98.1
                  have eE101 : fE [21] u37 u100 := hw98.2.1
                  have hE : mF (XR []) f a u100 a6 := mF_fE hE eE101 (by decide)
                  have hk0 : fE [13, 14, 18, 19, 20, 21] f u100 := fE_tr hk0 (fE_w (by decide) eE101)
                  have hk1 : rS u100 a6 N ob := rS_fE eE101 hk1 (by decide)
                  have hk2 : u100 13 = 0 := (eE101 13 (by decide)).trans hk2
                  obtain ⟨z102, ez102⟩ : ∃ z : Int32, z = u100 21 := ⟨_, rfl⟩
                  have haz102 : z102 = a6 17 (i3) := by rw [ez102]; exact (hw98.2.2.1 ((eE38 21 (by decide)).trans h2x)).1
                  have hnz102 : ¬ z102 = -1 := by rw [ez102]; exact (hw98.2.2.1 ((eE38 21 (by decide)).trans h2x)).2
                  refine lv_aload_n hx hb dX12_reads_95 rfl (lv_at hl 1 rfl) ?_
                  refine lv_aload_n hx hb dX12_reads_96 rfl (lv_at hl 1 rfl) ?_
                  refine va_get (D := D) (ci := 12) (v := .int (u100 21)) (C := RX12) (T := TX12) (N := 48) hx hb hg inC12 hown hK hP 0 rfl rfl 21 (by decide) (hg _ wt5_181) (fun _ h9 => h9) rfl dX12_reads_97 ?_
                  refine k_top (z := z102) ez102.symm ?_
                  refine va_put (D := D) (ci := 12) (v := .int z102) (ty := .int) (C := RX12) (T := TX12) (N := 48) hx hb hg inC12 tyX12 tyX12_ok nmX12 hown hK hP hD hS 0 rfl rfl 14 (by decide) (hg _ wt5_174) (fun _ h9 => h9) rfl (by decide +kernel) rfl rfl (Nat.le_of_ble_eq_true rfl) dX12_reads_100 (fun H locs hP hD hS => ?_)
                  have hP : va_P D vwCl (mW K o r (upd u100 14 z102) a6 g7) H := hP
                  have hD : va_D A (mW K o r (upd u100 14 z102) a6 g7) := hD
                  refine k_gen (P := fun z => va_P D vwCl (mW K o r z a6 g7) H ∧ va_D A (mW K o r z a6 g7) ∧ (mI z a6) ∧ (mF (XR []) f a z a6) ∧ (fE [13, 14, 18, 19, 20, 21] f z) ∧ (rS z a6 N ob) ∧ (z 13 = 0)) (upd u100 14 z102) ⟨hP, hD, (mI_f hI (fI_st hI.1 14 (kb_any _) (by decide) (by decide))), (mF_f hE), (fE_f hk0 (by decide)), (rS_f hk1 (by decide) (by decide) (by decide) (by decide)), ((pk_un (by decide)).trans hk2)⟩ (fun f_103 ef_103 hq => ?_)
                  obtain ⟨hP, hD, hI, hE, hk0, hk1, hk2⟩ := hq
                  refine lv_aload_n hx hb dX12_reads_103 rfl (lv_at hl 1 rfl) ?_
                  refine kI.callV (As := []) (rest := []) ⟨hx, hb, hml, hown, hg⟩ (m_fine l o r f_103 a6 g7 hI   ) (cwV 0 hg (kgV wt6_204 wt6_206 wp4_7 wt1_14 wt6_207) rfl rfl rfl (by decide +kernel) ⟨by decide, by decide⟩) hK hP hD hS hA mIs [] rfl (wr := []) rfl rfl rfl (fun i h => by cases h) 0 12 rfl rfl rfl hl.1 rfl (Nat.le_of_ble_eq_true rfl) dX12_reads_104 ⟨Nat.le_refl _, Nat.le_refl _⟩ (fun v105 u106 H locs hw104 hP hD hS => ?_)
                  have hP : va_P D vwCl (mW K o r f_103 a6 g7) H := hP
                  have hD : va_D A (mW K o r f_103 a6 g7) := hD
                  refine k_top (z := 0) ((hw104.2).elim (fun q => absurd q.2 (fun q => hnz102 ((((show f_103 21 = u100 21 from by rw [← ef_103]; rfl).trans ez102.symm)).symm.trans q))) (fun q => q.1)) ?_
                  exact kI_ret (v := 0) hx hb hr hlocks (by decide +kernel) hK hS dX12_reads_107 (f_103, a6, g7) hP hD ⟨(kb_w kc_0 (by decide) (by decide)), hI, hE, hk2, ⟨N, false, (hk1).1, hN2, (show txR ob (a 11) (f 13).toInt.toNat false (f_103 14) from (by rw [← hSd]; exact ⟨N, i3, hsp.1, fun i hi => (hsp.2.1 i hi).1, (by rw [← hTd]; exact xc _ (Or.inr (Or.inl ⟨hTk39, hel, rfl⟩))), (((show f_103 14 = z102 from by rw [← ef_103]; rfl)).trans (haz102.trans (spR_p hsp hvlp24_1)))⟩)), rfl, fun q => absurd q (by decide)⟩, h11, hk0⟩
            · exact kb_nsame c82 kc_0 kc_0
        · obtain ⟨z107, ez107⟩ : ∃ z : Int32, z = F23 21 := ⟨_, rfl⟩
          have haz107 : z107 = a6 17 (i3) := by rw [ez107]; exact hbd.1
          have hnz107 : ¬ z107 = -1 := by rw [ez107]; exact hbd.2
          refine lv_aload_n hx hb dX12_reads_34 rfl (lv_at hl 1 rfl) ?_
          refine lv_bipush (v := 59) hx hb dX12_reads_35 (by decide) ?_
          refine kN.callS (As := [.int 59]) (rest := [.ref o]) ⟨hx, hb, hml, hown, hg⟩ (m_sign l 59 (kb_w kc_59 (by decide) (by decide))) (va_cwS 1 hg (kgS wt6_220 wt6_221 wt1_14 wt6_222) rfl rfl rfl (by decide +kernel) ⟨by decide, by decide⟩) hP hS rfl hl.1 rfl (Nat.le_of_ble_eq_true rfl) dX12_reads_37 ⟨Nat.le_refl _, Nat.le_refl _⟩ (fun v109 H locs hw108 hP hS => ?_)
          refine k_top (z := 159) (Int32.toInt_inj.mp (hw108.2.trans (by decide +kernel))) ?_
          refine kI.callV (As := [.int 159]) (rest := []) ⟨hx, hb, hml, hown, hg⟩ (q_takes0 l o r F23 a6 g7 hI 159 (kb_w kc_159 (by decide) (by decide)) N (i3) ob T hk1 (by rw [egv27.symm]; exact hg28) hvlp24_1 hp3 (by decide +kernel)) (cwV 1 hg (kgV wt6_200 wt6_202 wp4_6 wt1_14 wt6_203) rfl rfl rfl (by decide +kernel) ⟨by decide, by decide⟩) hK hP hD hS hA mIs [] rfl (wr := []) rfl rfl rfl (fun i h => by cases h) 0 12 rfl rfl rfl hl.1 rfl (Nat.le_of_ble_eq_true rfl) dX12_reads_40 ⟨Nat.le_refl _, Nat.le_refl _⟩ (fun v112 u113 H locs hw111 hP hD hS => ?_)
          have hP : va_P D vwCl (mW K o r u113 a6 g7) H := hP
          have hD : va_D A (mW K o r u113 a6 g7) := hD
          have hI : mI u113 a6 := hw111.2.1
          have eE114 : fE [19] F23 u113 := hw111.2.2.1
          have hE : mF (XR []) f a u113 a6 := mF_fE hE eE114 (by decide)
          have hk0 : fE [13, 14, 18, 19, 20, 21] f u113 := fE_tr hk0 (fE_w (by decide) eE114)
          have hk1 : rS u113 a6 N ob := rS_fE eE114 hk1 (by decide)
          have hk2 : u113 13 = 0 := (eE114 13 (by decide)).trans hk2
          obtain ⟨hvk115, hnk115, hpk115⟩ := (hw111.2.2.2).elim (fun q => absurd q.2.1 (fun q => hnz107 ((ez107.symm).symm.trans q))) (fun q => q)
          refine k_top (z := 0) hvk115 ?_
          obtain ⟨gv116, egv116⟩ : ∃ z : Int32, z = u113 19 := ⟨_, rfl⟩
          have hg117 : gv116.toInt = ((i3 : Nat) : Int) := by rw [egv116]; exact hpk115
          have b118 : kb 0 gv116 400 := kb_tok hk1 hvlp24_1 hg117
          refine lv_if_eq (tgt := 73) hx hb dX12_reads_43 (by decide) (fun c119 => ?_) (fun c119 => ?_)
          · refine lv_aload_n hx hb dX12_reads_73 rfl (lv_at hl 1 rfl) ?_
            refine kI.callV (As := []) (rest := []) ⟨hx, hb, hml, hown, hg⟩ (m_fine l o r u113 a6 g7 hI   ) (cwV 0 hg (kgV wt6_204 wt6_206 wp4_7 wt1_14 wt6_207) rfl rfl rfl (by decide +kernel) ⟨by decide, by decide⟩) hK hP hD hS hA mIs [] rfl (wr := []) rfl rfl rfl (fun i h => by cases h) 0 12 rfl rfl rfl hl.1 rfl (Nat.le_of_ble_eq_true rfl) dX12_reads_74 ⟨Nat.le_refl _, Nat.le_refl _⟩ (fun v121 u122 H locs hw120 hP hD hS => ?_)
            have hP : va_P D vwCl (mW K o r u113 a6 g7) H := hP
            have hD : va_D A (mW K o r u113 a6 g7) := hD
            refine k_top (z := 0) ((hw120.2).elim (fun q => absurd q.2 (fun q => hnz107 ((((eE114 21 (by decide)).trans ez107.symm)).symm.trans q))) (fun q => q.1)) ?_
            refine lv_if_eq (tgt := 95) hx hb dX12_reads_77 (by decide) (fun c123 => ?_) (fun c123 => ?_)
            · refine lv_aload_n hx hb dX12_reads_95 rfl (lv_at hl 1 rfl) ?_
              refine lv_aload_n hx hb dX12_reads_96 rfl (lv_at hl 1 rfl) ?_
              refine va_get (D := D) (ci := 12) (v := .int (u113 21)) (C := RX12) (T := TX12) (N := 48) hx hb hg inC12 hown hK hP 0 rfl rfl 21 (by decide) (hg _ wt5_181) (fun _ h9 => h9) rfl dX12_reads_97 ?_
              refine k_top (z := z107) ((eE114 21 (by decide)).trans ez107.symm) ?_
              refine va_put (D := D) (ci := 12) (v := .int z107) (ty := .int) (C := RX12) (T := TX12) (N := 48) hx hb hg inC12 tyX12 tyX12_ok nmX12 hown hK hP hD hS 0 rfl rfl 14 (by decide) (hg _ wt5_174) (fun _ h9 => h9) rfl (by decide +kernel) rfl rfl (Nat.le_of_ble_eq_true rfl) dX12_reads_100 (fun H locs hP hD hS => ?_)
              have hP : va_P D vwCl (mW K o r (upd u113 14 z107) a6 g7) H := hP
              have hD : va_D A (mW K o r (upd u113 14 z107) a6 g7) := hD
              refine k_gen (P := fun z => va_P D vwCl (mW K o r z a6 g7) H ∧ va_D A (mW K o r z a6 g7) ∧ (mI z a6) ∧ (mF (XR []) f a z a6) ∧ (fE [13, 14, 18, 19, 20, 21] f z) ∧ (rS z a6 N ob) ∧ (z 13 = 0)) (upd u113 14 z107) ⟨hP, hD, (mI_f hI (fI_st hI.1 14 (kb_any _) (by decide) (by decide))), (mF_f hE), (fE_f hk0 (by decide)), (rS_f hk1 (by decide) (by decide) (by decide) (by decide)), ((pk_un (by decide)).trans hk2)⟩ (fun f_124 ef_124 hq => ?_)
              obtain ⟨hP, hD, hI, hE, hk0, hk1, hk2⟩ := hq
              refine lv_aload_n hx hb dX12_reads_103 rfl (lv_at hl 1 rfl) ?_
              refine kI.callV (As := []) (rest := []) ⟨hx, hb, hml, hown, hg⟩ (m_fine l o r f_124 a6 g7 hI   ) (cwV 0 hg (kgV wt6_204 wt6_206 wp4_7 wt1_14 wt6_207) rfl rfl rfl (by decide +kernel) ⟨by decide, by decide⟩) hK hP hD hS hA mIs [] rfl (wr := []) rfl rfl rfl (fun i h => by cases h) 0 12 rfl rfl rfl hl.1 rfl (Nat.le_of_ble_eq_true rfl) dX12_reads_104 ⟨Nat.le_refl _, Nat.le_refl _⟩ (fun v126 u127 H locs hw125 hP hD hS => ?_)
              have hP : va_P D vwCl (mW K o r f_124 a6 g7) H := hP
              have hD : va_D A (mW K o r f_124 a6 g7) := hD
              refine k_top (z := 0) ((hw125.2).elim (fun q => absurd q.2 (fun q => hnz107 ((((show f_124 21 = u113 21 from by rw [← ef_124]; rfl).trans ((eE114 21 (by decide)).trans ez107.symm))).symm.trans q))) (fun q => q.1)) ?_
              exact kI_ret (v := 0) hx hb hr hlocks (by decide +kernel) hK hS dX12_reads_107 (f_124, a6, g7) hP hD ⟨(kb_w kc_0 (by decide) (by decide)), hI, hE, hk2, ⟨N, false, (hk1).1, hN2, (show txR ob (a 11) (f 13).toInt.toNat false (f_124 14) from (by rw [← hSd]; exact ⟨N, i3, hsp.1, fun i hi => (hsp.2.1 i hi).1, (by rw [← hTd]; exact xb), (((show f_124 14 = z107 from by rw [← ef_124]; rfl)).trans (haz107.trans (spR_p hsp hvlp24_1)))⟩)), rfl, fun q => absurd q (by decide)⟩, h11, hk0⟩
            · exact kb_nsame c123 kc_0 kc_0
          · exact kb_nsame c119 kc_0 kc_0
    exact lp24 (N + 1) (ik17) (nk17) 1 u15 _ _ _ 1 (by omega) hI hE hk0 hk1 hk2 (kb_w kc_1 (by decide) (by decide)) (by rw [egv18.symm]; exact hg19) (hNk17) (Or.inl ⟨h2k17, ⟨(by rw [ez21.symm]; exact hzz21), h3k17.2⟩, ⟨by decide +kernel, by decide, by decide⟩, fun r h => pT_s (q := 11) hGk17 h⟩) hP hD hS (lv_sub hl [0, 1] rfl)
  · obtain ⟨gv128, egv128⟩ : ∃ z : Int32, z = u15 19 := ⟨_, rfl⟩
    have hg129 : gv128.toInt = ((ik17 : Nat) : Int) := by rw [egv128]; exact hgk17
    have b130 : kb 0 gv128 400 := kb_tok hk1 hNk17 hg129
    obtain ⟨z131, ez131⟩ : ∃ z : Int32, z = u15 21 := ⟨_, rfl⟩
    have haz131 : z131 = a6 17 (ik17) := by rw [ez131]; exact hbk17.1
    have hnz131 : ¬ z131 = -1 := by rw [ez131]; exact hbk17.2
    refine lv_iconst (v := 1) hx hb dX12_reads_32 (by decide) ?_
    refine lv_istore_n (lv' := [(1, .int 1), (0, .ref o)]) hx hb dX12_reads_33 rfl hl (by decide) rfl (fun ls hl => ?_)
    have lp134 : ∀ (n135 : Nat) (i3 : Nat) (n3 : Nat) (cn : Nat) (F133 : Nat → Int32) (H : Heap) (locs : List Loc) (ls : Array Slot) (y132 : Int32), ((N : Int) < (i3 : Int) + (n135 : Int)) → (mI F133 a6) → (mF (XR []) f a F133 a6) → (fE [13, 14, 18, 19, 20, 21] f F133) → (rS F133 a6 N ob) → (F133 13 = 0) → (kb 1 y132 13) → ((F133 19).toInt = (i3 : Int)) → (i3 ≤ N) → (F133 21 = z131 ∧ i3 = ik17) → va_P D vwCl (mW K o r F133 a6 g7) H → va_D A (mW K o r F133 a6 g7) → va_S A s.heap H locs → lv_has ls 2 [(1, .int y132), (0, .ref o)] → W p l e (rmD 50 0 0) s m ([.ref o] : List Value).toArray below meth c H locs 0 0 (kQi D (tysK K) (fun v (u : mS) => kb 0 v 1 ∧ mI u.1 u.2.1 ∧ mF (XR []) f a u.1 u.2.1 ∧ u.1 13 = 0 ∧ (∃ (N : Nat) (b : Bool), (u.1 18).toInt = (N : Int) ∧ N ≤ 400 ∧ txR ob (a 11) (f 13).toInt.toNat b (u.1 14) ∧ v = (if b = true then 1 else 0) ∧ (b = true → gG ob (rC (u.2.1 15) N) 8 15 0 N)) ∧ u.2.1 11 = a 11 ∧ fE [13, 14, 18, 19, 20, 21] f u.1) (fun u => mW K o r u.1 u.2.1 u.2.2) A below ([.ref o] : List Value).toArray s 0 0) (F0 m 34 ls []) := by
      intro n135
      induction n135 with
      | zero =>
        intro i3 n3 cn F133  H locs ls y132 hmlp134 hI hE hk0 hk1 hk2 b136 hvlp134_0 hvlp134_1 hvlp134_2 hP hD hS hl
        exact (by have w1 := hmlp134; have w2 := hvlp134_1; omega : False).elim
      | succ n135 ihlp134 =>
        intro i3 n3 cn F133  H locs ls y132 hmlp134 hI hE hk0 hk1 hk2 b136 hvlp134_0 hvlp134_1 hvlp134_2 hP hD hS hl
        obtain ⟨gv137, egv137⟩ : ∃ z : Int32, z = F133 19 := ⟨_, rfl⟩
        have hg138 : gv137.toInt = ((i3 : Nat) : Int) := by rw [egv137]; exact hvlp134_0
        have b139 : kb 0 gv137 400 := kb_tok hk1 hvlp134_1 hg138
        refine lv_aload_n hx hb dX12_reads_34 rfl (lv_at hl 1 rfl) ?_
        refine lv_bipush (v := 59) hx hb dX12_reads_35 (by decide) ?_
        refine kN.callS (As := [.int 59]) (rest := [.ref o]) ⟨hx, hb, hml, hown, hg⟩ (m_sign l 59 (kb_w kc_59 (by decide) (by decide))) (va_cwS 1 hg (kgS wt6_220 wt6_221 wt1_14 wt6_222) rfl rfl rfl (by decide +kernel) ⟨by decide, by decide⟩) hP hS rfl hl.1 rfl (Nat.le_of_ble_eq_true rfl) dX12_reads_37 ⟨Nat.le_refl _, Nat.le_refl _⟩ (fun v141 H locs hw140 hP hS => ?_)
        refine k_top (z := 159) (Int32.toInt_inj.mp (hw140.2.trans (by decide +kernel))) ?_
        refine kI.callV (As := [.int 159]) (rest := []) ⟨hx, hb, hml, hown, hg⟩ (q_takes0 l o r F133 a6 g7 hI 159 (kb_w kc_159 (by decide) (by decide)) N (i3) ob T hk1 (by rw [egv137.symm]; exact hg138) hvlp134_1 hp3 (by decide +kernel)) (cwV 1 hg (kgV wt6_200 wt6_202 wp4_6 wt1_14 wt6_203) rfl rfl rfl (by decide +kernel) ⟨by decide, by decide⟩) hK hP hD hS hA mIs [] rfl (wr := []) rfl rfl rfl (fun i h => by cases h) 0 12 rfl rfl rfl hl.1 rfl (Nat.le_of_ble_eq_true rfl) dX12_reads_40 ⟨Nat.le_refl _, Nat.le_refl _⟩ (fun v144 u145 H locs hw143 hP hD hS => ?_)
        have hP : va_P D vwCl (mW K o r u145 a6 g7) H := hP
        have hD : va_D A (mW K o r u145 a6 g7) := hD
        have hI : mI u145 a6 := hw143.2.1
        have eE146 : fE [19] F133 u145 := hw143.2.2.1
        have hE : mF (XR []) f a u145 a6 := mF_fE hE eE146 (by decide)
        have hk0 : fE [13, 14, 18, 19, 20, 21] f u145 := fE_tr hk0 (fE_w (by decide) eE146)
        have hk1 : rS u145 a6 N ob := rS_fE eE146 hk1 (by decide)
        have hk2 : u145 13 = 0 := (eE146 13 (by decide)).trans hk2
        obtain ⟨hvk147, hnk147, hpk147⟩ := (hw143.2.2.2).elim (fun q => absurd q.2.1 (fun q => hnz131 ((hvlp134_2.1).symm.trans q))) (fun q => q)
        refine k_top (z := 0) hvk147 ?_
        obtain ⟨gv148, egv148⟩ : ∃ z : Int32, z = u145 19 := ⟨_, rfl⟩
        have hg149 : gv148.toInt = ((i3 : Nat) : Int) := by rw [egv148]; exact hpk147
        have b150 : kb 0 gv148 400 := kb_tok hk1 hvlp134_1 hg149
        refine lv_if_eq (tgt := 73) hx hb dX12_reads_43 (by decide) (fun c151 => ?_) (fun c151 => ?_)
        · refine lv_aload_n hx hb dX12_reads_73 rfl (lv_at hl 1 rfl) ?_
          refine kI.callV (As := []) (rest := []) ⟨hx, hb, hml, hown, hg⟩ (m_fine l o r u145 a6 g7 hI   ) (cwV 0 hg (kgV wt6_204 wt6_206 wp4_7 wt1_14 wt6_207) rfl rfl rfl (by decide +kernel) ⟨by decide, by decide⟩) hK hP hD hS hA mIs [] rfl (wr := []) rfl rfl rfl (fun i h => by cases h) 0 12 rfl rfl rfl hl.1 rfl (Nat.le_of_ble_eq_true rfl) dX12_reads_74 ⟨Nat.le_refl _, Nat.le_refl _⟩ (fun v153 u154 H locs hw152 hP hD hS => ?_)
          have hP : va_P D vwCl (mW K o r u145 a6 g7) H := hP
          have hD : va_D A (mW K o r u145 a6 g7) := hD
          refine k_top (z := 0) ((hw152.2).elim (fun q => absurd q.2 (fun q => hnz131 ((((eE146 21 (by decide)).trans hvlp134_2.1)).symm.trans q))) (fun q => q.1)) ?_
          refine lv_if_eq (tgt := 95) hx hb dX12_reads_77 (by decide) (fun c155 => ?_) (fun c155 => ?_)
          · refine lv_aload_n hx hb dX12_reads_95 rfl (lv_at hl 1 rfl) ?_
            refine lv_aload_n hx hb dX12_reads_96 rfl (lv_at hl 1 rfl) ?_
            refine va_get (D := D) (ci := 12) (v := .int (u145 21)) (C := RX12) (T := TX12) (N := 48) hx hb hg inC12 hown hK hP 0 rfl rfl 21 (by decide) (hg _ wt5_181) (fun _ h9 => h9) rfl dX12_reads_97 ?_
            refine k_top (z := z131) ((eE146 21 (by decide)).trans hvlp134_2.1) ?_
            refine va_put (D := D) (ci := 12) (v := .int z131) (ty := .int) (C := RX12) (T := TX12) (N := 48) hx hb hg inC12 tyX12 tyX12_ok nmX12 hown hK hP hD hS 0 rfl rfl 14 (by decide) (hg _ wt5_174) (fun _ h9 => h9) rfl (by decide +kernel) rfl rfl (Nat.le_of_ble_eq_true rfl) dX12_reads_100 (fun H locs hP hD hS => ?_)
            have hP : va_P D vwCl (mW K o r (upd u145 14 z131) a6 g7) H := hP
            have hD : va_D A (mW K o r (upd u145 14 z131) a6 g7) := hD
            refine k_gen (P := fun z => va_P D vwCl (mW K o r z a6 g7) H ∧ va_D A (mW K o r z a6 g7) ∧ (mI z a6) ∧ (mF (XR []) f a z a6) ∧ (fE [13, 14, 18, 19, 20, 21] f z) ∧ (rS z a6 N ob) ∧ (z 13 = 0)) (upd u145 14 z131) ⟨hP, hD, (mI_f hI (fI_st hI.1 14 (kb_any _) (by decide) (by decide))), (mF_f hE), (fE_f hk0 (by decide)), (rS_f hk1 (by decide) (by decide) (by decide) (by decide)), ((pk_un (by decide)).trans hk2)⟩ (fun f_156 ef_156 hq => ?_)
            obtain ⟨hP, hD, hI, hE, hk0, hk1, hk2⟩ := hq
            refine lv_aload_n hx hb dX12_reads_103 rfl (lv_at hl 1 rfl) ?_
            refine kI.callV (As := []) (rest := []) ⟨hx, hb, hml, hown, hg⟩ (m_fine l o r f_156 a6 g7 hI   ) (cwV 0 hg (kgV wt6_204 wt6_206 wp4_7 wt1_14 wt6_207) rfl rfl rfl (by decide +kernel) ⟨by decide, by decide⟩) hK hP hD hS hA mIs [] rfl (wr := []) rfl rfl rfl (fun i h => by cases h) 0 12 rfl rfl rfl hl.1 rfl (Nat.le_of_ble_eq_true rfl) dX12_reads_104 ⟨Nat.le_refl _, Nat.le_refl _⟩ (fun v158 u159 H locs hw157 hP hD hS => ?_)
            have hP : va_P D vwCl (mW K o r f_156 a6 g7) H := hP
            have hD : va_D A (mW K o r f_156 a6 g7) := hD
            refine k_top (z := 0) ((hw157.2).elim (fun q => absurd q.2 (fun q => hnz131 ((((show f_156 21 = u145 21 from by rw [← ef_156]; rfl).trans ((eE146 21 (by decide)).trans hvlp134_2.1))).symm.trans q))) (fun q => q.1)) ?_
            exact kI_ret (v := 0) hx hb hr hlocks (by decide +kernel) hK hS dX12_reads_107 (f_156, a6, g7) hP hD ⟨(kb_w kc_0 (by decide) (by decide)), hI, hE, hk2, ⟨N, false, (hk1).1, hN2, (show txR ob (a 11) (f 13).toInt.toNat false (f_156 14) from (by rw [← hSd]; exact ⟨N, i3, hsp.1, fun i hi => (hsp.2.1 i hi).1, (by rw [← hTd]; exact (by rw [hvlp134_2.2]; exact pT_f (q := 11) hGk17)), (((show f_156 14 = z131 from by rw [← ef_156]; rfl)).trans ((show z131 = a6 17 i3 from by rw [hvlp134_2.2]; exact haz131).trans (spR_p hsp hvlp134_1)))⟩)), rfl, fun q => absurd q (by decide)⟩, h11, hk0⟩
          · exact kb_nsame c155 kc_0 kc_0
        · exact kb_nsame c151 kc_0 kc_0
    exact lp134 (N + 1) (ik17) (0) 1 u15 _ _ _ 1 (by omega) hI hE hk0 hk1 hk2 (kb_w kc_1 (by decide) (by decide)) (by rw [egv128.symm]; exact hg129) (hNk17) (⟨ez131.symm, rfl⟩) hP hD hS (lv_sub hl [0, 1] rfl)
  · exact absurd (show f_12 21 = (-1) from by rw [← ef_12]; rfl) hdk17.1
