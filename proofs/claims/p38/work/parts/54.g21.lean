/-! what is read by the function is a text of the grammar -/
theorem lf_t {o : Bool} {c v t : Int32} (h : tOk c v t) (q : pLf o t = true) : c = 50 ∨ (o = false ∧ 9 ≤ c.toInt ∧ c.toInt ≤ 18) ∨ (o = true ∧ 16 ≤ c.toInt ∧ c.toInt ≤ 22) := by
  by_cases h0 : c = 50 ∧ v.toInt ≤ 1000
  · exact Or.inl h0.1
  · by_cases h1 : kb (if o = true then 16 else 9) c (if o = true then 22 else 18)
    · cases o with
      | false => exact Or.inr (Or.inl ⟨rfl, h1.1, h1.2⟩)
      | true => exact Or.inr (Or.inr ⟨rfl, h1.1, h1.2⟩)
    · rw [lf_f h h0 h1] at q; cases q
theorem nm_t {o : Bool} {c v t : Int32} (h : tOk c v t) (q : pNm o t = true) : o = true ∧ (c = 16 ∨ c = 17 ∨ c = 22) := by
  cases o with
  | false => unfold pNm at q; rw [Bool.false_and] at q; cases q
  | true =>
    refine ⟨rfl, ?_⟩
    unfold pNm at q
    rw [Bool.true_and, Bool.or_eq_true, Bool.or_eq_true, decide_eq_true_iff, decide_eq_true_iff, decide_eq_true_iff] at q
    rcases q with (e | e) | e
    · exact Or.inl ((tk_iff h (by decide +kernel)).mpr (e.trans (by decide +kernel)))
    · exact Or.inr (Or.inl ((tk_iff h (by decide +kernel)).mpr (e.trans (by decide +kernel))))
    · exact Or.inr (Or.inr ((tk_iff h (by decide +kernel)).mpr (e.trans (by decide +kernel))))
theorem pIn_50 {c v t : Int32} {lo hi : Int} (h : tOk c v t) (q : pInr t lo hi = true) (hh : hi ≤ 1000) : c = 50 := by
  by_cases e : c = 50
  · exact e
  · have h1 := tk_n50 h e
    have h2 := of_decide_eq_true q
    omega
theorem pB_t {x : pR} {k : Nat → Nat → pR} {j m : Nat} (h : pBn x k = some (true, j, m)) : ∃ j' m', x = some (true, j', m') ∧ k j' m' = some (true, j, m) := by
  cases x with
  | none => have h : (none : pR) = some (true, j, m) := h; cases h
  | some z =>
    obtain ⟨b, j', m'⟩ := z
    cases b with
    | true => exact ⟨j', m', rfl, h⟩
    | false =>
      have h : (some (false, j', m') : pR) = some (true, j, m) := h
      have := Option.some.inj h
      simp only [Prod.mk.injEq] at this
      exact absurd this.1 (by decide)
theorem nf_t {i j m : Nat} (h : (some (false, i, 0) : pR) = some (true, j, m)) : False := by
  have := Option.some.inj h
  simp only [Prod.mk.injEq] at this
  exact absurd this.1 (by decide)
theorem tt_t {i j n m : Nat} (h : (some (true, i, n) : pR) = some (true, j, m)) : j = i := by
  have := Option.some.inj h
  simp only [Prod.mk.injEq] at this
  exact this.2.1.symm
section PGG
variable {o : Bool} {T c : Nat → Int32}
theorem pg_one (hT : ∀ i, ∃ v, tOk (c i) v (T i)) {i : Nat} {x k : Int32} (h : T i = k) (hx : mpOk x = true) (e : mpT x = k) : c i = x := by
  obtain ⟨v, hv⟩ := hT i
  exact (tk_iff hv hx).mpr (h.trans e.symm)
theorem pg_no (hT : ∀ i, ∃ v, tOk (c i) v (T i)) {i : Nat} {x k : Int32} (h : ¬ T i = k) (hx : mpOk x = true) (e : mpT x = k) : ¬ c i = x := by
  obtain ⟨v, hv⟩ := hT i
  exact fun q => h (((tk_iff hv hx).mp q).trans e)
theorem pgG (hT : ∀ i, ∃ v, tOk (c i) v (T i)) : ∀ f d k i n j m, pP o T f d k i n = some (true, j, m) → k ≠ 17 → gG o c d k i j := by
  intro f
  induction f with
  | zero => intro d k i n j m h; have h : (none : pR) = some (true, j, m) := h; cases h
  | succ f ih =>
    intro d k i n j m h hk
    have h : pF o T (pP o T f) d k i n = some (true, j, m) := h
    unfold pF at h
    split at h
    · obtain ⟨j', m', h1, h2⟩ := pB_t h
      exact gi_0 (ih _ _ _ _ _ _ h1 (by decide)) (ih _ _ _ _ _ _ h2 (by decide))
    · split at h
      · rename_i w
        obtain ⟨m', g1, g2⟩ := gG_out (ih _ _ _ _ _ _ h (by decide))
        exact gi_6y (w.imp (fun e => pg_one hT e (by decide +kernel) (by decide +kernel)) (fun e => pg_one hT e (by decide +kernel) (by decide +kernel))) g1 g2
      · rename_i w
        rw [tt_t h]
        exact gi_6n (fun q => q.elim (pg_no hT (fun e => w (Or.inl e)) (by decide +kernel) (by decide +kernel)) (pg_no hT (fun e => w (Or.inr e)) (by decide +kernel) (by decide +kernel)))
    · obtain ⟨j', m', h1, h2⟩ := pB_t h
      exact gi_1 (ih _ _ _ _ _ _ h1 (by decide)) (ih _ _ _ _ _ _ h2 (by decide))
    · split at h
      · rename_i w
        obtain ⟨m', g1, g2⟩ := gG_out (ih _ _ _ _ _ _ h (by decide))
        exact gi_7y (w.imp (fun e => pg_one hT e (by decide +kernel) (by decide +kernel)) (fun w => w.imp (fun e => pg_one hT e (by decide +kernel) (by decide +kernel)) (fun e => pg_one hT e (by decide +kernel) (by decide +kernel)))) g1 g2
      · rename_i w
        rw [tt_t h]
        exact gi_7n (fun q => q.elim (pg_no hT (fun e => w (Or.inl e)) (by decide +kernel) (by decide +kernel)) (fun q => q.elim (pg_no hT (fun e => w (Or.inr (Or.inl e))) (by decide +kernel) (by decide +kernel)) (pg_no hT (fun e => w (Or.inr (Or.inr e))) (by decide +kernel) (by decide +kernel))))
    · split at h
      · rename_i w
        split at h
        · exact (nf_t h).elim
        · rename_i wd
          obtain ⟨j', m', h1, h2⟩ := pB_t h
          split at h2
          · rename_i w2
            exact gi_2a (pg_one hT w (by decide +kernel) (by decide +kernel)) (by omega : d = (d - 1) + 1) (ih _ _ _ _ _ _ h1 (by decide)) (pg_one hT w2 (by decide +kernel) (by decide +kernel)) (tt_t h2)
          · exact (nf_t h2).elim
      · split at h
        · exact (nf_t h).elim
        · rename_i w1
          split at h
          · exact (nf_t h).elim
          · obtain ⟨v, hv⟩ := hT i
            have hl : pLf o (T i) = true := by
              cases q : pLf o (T i) with
              | false => exact absurd q w1
              | true => rfl
            split at h
            · rename_i w3
              obtain ⟨ho, hn⟩ := nm_t hv w3
              by_cases w4 : pInr (T (i + 1)) 0 (if T i = 2014 then 9 else 5) = true
              · rw [if_pos w4] at h
                obtain ⟨v2, hv2⟩ := hT (i + 1)
                have h50 : c (i + 1) = 50 := pIn_50 hv2 w4 (by split <;> omega)
                exact gi_2p ho hn rfl h50 (tt_t h)
              · rw [if_neg w4] at h
                exact (nf_t h).elim
            · rename_i w3
              have ej := tt_t h
              rcases lf_t hv hl with e | ⟨ho, e1, e2⟩ | ⟨ho, e1, e2⟩
              · exact gi_2n e ej
              · exact gi_2l ho ⟨e1, e2⟩ ej
              · refine gi_2o ho ⟨e1, e2⟩ (fun q => w3 ?_) ej
                subst ho
                rcases q with q | q | q
                · rw [(tk_iff hv (by decide +kernel)).mp q]; decide +kernel
                · rw [(tk_iff hv (by decide +kernel)).mp q]; decide +kernel
                · rw [(tk_iff hv (by decide +kernel)).mp q]; decide +kernel
    · obtain ⟨j', m', h1, h2⟩ := pB_t h
      exact gi_3 (ih _ _ _ _ _ _ h1 (by decide)) (ih _ _ _ _ _ _ h2 (by decide))
    · split at h
      · rename_i w
        obtain ⟨m', g1, g2⟩ := gG_out (ih _ _ _ _ _ _ h (by decide))
        exact gi_8y (pg_one hT w (by decide +kernel) (by decide +kernel)) g1 g2
      · rename_i w
        rw [tt_t h]
        exact gi_8n (pg_no hT w (by decide +kernel) (by decide +kernel))
    · obtain ⟨j', m', h1, h2⟩ := pB_t h
      exact gi_4 (ih _ _ _ _ _ _ h1 (by decide)) (ih _ _ _ _ _ _ h2 (by decide))
    · split at h
      · rename_i w
        obtain ⟨m', g1, g2⟩ := gG_out (ih _ _ _ _ _ _ h (by decide))
        exact gi_9y (pg_one hT w (by decide +kernel) (by decide +kernel)) g1 g2
      · rename_i w
        rw [tt_t h]
        exact gi_9n (pg_no hT w (by decide +kernel) (by decide +kernel))
    · split at h
      · rename_i w
        exact gi_5y (pg_one hT w (by decide +kernel) (by decide +kernel)) (ih _ _ _ _ _ _ h (by decide))
      · rename_i w
        exact gi_5n (pg_no hT w (by decide +kernel) (by decide +kernel)) (ih _ _ _ _ _ _ h (by decide))
    · split at h
      · rename_i w
        split at h
        · exact (nf_t h).elim
        · rename_i wd
          obtain ⟨j', m', h1, h2⟩ := pB_t h
          split at h2
          · rename_i w2
            exact gi_10a (pg_one hT w (by decide +kernel) (by decide +kernel)) (by omega : d = (d - 1) + 1) (ih _ _ _ _ _ _ h1 (by decide)) (pg_one hT w2 (by decide +kernel) (by decide +kernel)) (tt_t h2)
          · exact (nf_t h2).elim
      · rename_i w
        obtain ⟨j', m', h1, h2⟩ := pB_t h
        split at h2
        · rename_i w2
          exact gi_10b (pg_no hT w (by decide +kernel) (by decide +kernel)) (ih _ _ _ _ _ _ h1 (by decide)) (w2.imp (fun e => pg_one hT e (by decide +kernel) (by decide +kernel)) (fun w2 => w2.imp (fun e => pg_one hT e (by decide +kernel) (by decide +kernel)) (fun e => pg_one hT e (by decide +kernel) (by decide +kernel)))) rfl (ih _ _ _ _ _ _ h2 (by decide))
        · exact (nf_t h2).elim
    · split at h
      · rename_i w
        exact gi_12y (pg_one hT w (by decide +kernel) (by decide +kernel)) (ih _ _ _ _ _ _ h (by decide))
      · rename_i w
        rw [tt_t h]
        exact gi_12n (pg_no hT w (by decide +kernel) (by decide +kernel))
    · split at h
      · rename_i w
        obtain ⟨j', m', h1, h2⟩ := pB_t h
        exact gi_11a (w.imp (fun e => pg_one hT e (by decide +kernel) (by decide +kernel)) (fun w => w.imp (fun e => pg_one hT e (by decide +kernel) (by decide +kernel)) (fun e => pg_one hT e (by decide +kernel) (by decide +kernel)))) (ih _ _ _ _ _ _ h1 (by decide)) (ih _ _ _ _ _ _ h2 (by decide))
      · split at h
        · rename_i w2
          exact gi_11b (pg_one hT w2 (by decide +kernel) (by decide +kernel)) rfl (ih _ _ _ _ _ _ h (by decide))
        · exact (nf_t h).elim
    · split at h
      · rename_i w
        split at h
        · rename_i w2
          obtain ⟨v2, hv2⟩ := hT (i + 1)
          exact gi_14y (pg_one hT w (by decide +kernel) (by decide +kernel)) (pIn_50 hv2 w2 (by decide)) rfl (ih _ _ _ _ _ _ h (by decide))
        · exact (nf_t h).elim
      · rename_i w
        exact gi_14n (pg_no hT w (by decide +kernel) (by decide +kernel)) (ih _ _ _ _ _ _ h (by decide))
    · have h17 : ∀ i n, pP o T f d 17 i n = some (true, j, m) → ∃ m', gG o c d 0 i m' ∧ gG o c d 14 m' j := by
        intro i n q
        cases f with
        | zero => have q : (none : pR) = some (true, j, m) := q; cases q
        | succ f =>
          have q : pBn (pP o T f d 0 i n) (fun j m => pP o T f d 14 j m) = some (true, j, m) := q
          obtain ⟨j', m', h1, h2⟩ := pB_t q
          exact ⟨j', ih _ _ _ _ _ _ (pP_s _ _ _ _ _ _ h1) (by decide), ih _ _ _ _ _ _ (pP_s _ _ _ _ _ _ h2) (by decide)⟩
      split at h
      · rename_i w
        obtain ⟨j', m', h1, h2⟩ := pB_t h
        split at h2
        · rename_i w2
          obtain ⟨m2, g1, g2⟩ := h17 _ _ h2
          exact gi_13a (pg_one hT w (by decide +kernel) (by decide +kernel)) (ih _ _ _ _ _ _ h1 (by decide)) (pg_one hT w2 (by decide +kernel) (by decide +kernel)) rfl g1 g2
        · exact (nf_t h2).elim
      · split at h
        · rename_i w2
          obtain ⟨m2, g1, g2⟩ := h17 _ _ h
          exact gi_13b (w2.imp (fun e => pg_one hT e (by decide +kernel) (by decide +kernel)) (fun e => pg_one hT e (by decide +kernel) (by decide +kernel))) g1 g2
        · split at h
          · rename_i w3
            exact gi_13c (pg_one hT w3 (by decide +kernel) (by decide +kernel)) rfl (ih _ _ _ _ _ _ h (by decide))
          · exact (nf_t h).elim
    · exact absurd rfl hk
    · cases h
theorem pTG (hT : ∀ i, ∃ v, tOk (c i) v (T i)) {N : Nat} : ∀ q i n j, pT o T N q i n (true, j) → gG o c 8 15 i j ∧ ¬ j < N := by
  intro q
  induction q with
  | zero => intro i n j h; have h : ((true, j) : Bool × Nat) = (false, i) := h; simp only [Prod.mk.injEq] at h; exact absurd h.1 (by decide)
  | succ q ih =>
    intro i n j h
    rcases h with ⟨j', -, h⟩ | ⟨j', m, ⟨f, h1⟩, h⟩
    · simp only [Prod.mk.injEq] at h; exact absurd h.1 (by decide)
    · have g1 : gG o c 8 (if o = true then 13 else 11) i j' := by
        have := pgG hT f 8 (pK o) i n j' m h1 (by unfold pK; split <;> decide)
        exact this
      rcases h with ⟨e, h⟩ | ⟨e, -, h⟩ | ⟨e, hN, h⟩
      · obtain ⟨g2, hj⟩ := ih _ _ _ h
        exact ⟨gi_15 g1 (gi_16y (pg_one hT e (by decide +kernel) (by decide +kernel)) g2), hj⟩
      · simp only [Prod.mk.injEq] at h; exact absurd h.1 (by decide)
      · simp only [Prod.mk.injEq] at h
        rw [h.2]
        exact ⟨gi_15 g1 (gi_16n (pg_no hT e (by decide +kernel) (by decide +kernel))), hN⟩
end PGG
theorem rQ_all {a : Nat → Nat → Int32} {N : Nat} {T : Nat → Int32} (hQ : rQ a N T) : ∀ i, ∃ v, tOk (rC (a 15) N i) v (T i) := by
  intro i
  unfold rC
  by_cases q : i < N
  · rw [if_pos q]; exact ⟨_, hQ.1 i q⟩
  · rw [if_neg q]; exact ⟨0, Or.inl ⟨rfl, Or.inr (hQ.2 i (by omega))⟩⟩
theorem spR_Q {t : Nat → Int32} {S N : Nat} {A : Nat → Nat → Int32} (h : spR t S N A) : rQ A N (tkT t S) := ⟨fun i hi => (h.2.1 i hi).2.1, fun i hi => tkT_e h.1 hi⟩
/-- the tokens that were split of S bytes -/
def rqP (A : Nat → Nat → Int32) (t : Nat → Int32) (S N : Nat) : Prop := rQ A N (tkT t S) ∧ plT t S N = S ∧ ∀ i, i < N → plT t S i < S
/-- a text: what is read of S bytes -/
def txR (o : Bool) (t : Nat → Int32) (S : Nat) (b : Bool) (p : Int32) : Prop := ∃ N j, plT t S N = S ∧ (∀ i, i < N → plT t S i < S) ∧ pT o (tkT t S) N 12 0 0 (b, j) ∧ p = (if b = true then -1 else pcT t S j)
theorem txR_det {o : Bool} {t : Nat → Int32} {S : Nat} {b b' : Bool} {p p' : Int32} (h : txR o t S b p) (q : txR o t S b' p') : b = b' ∧ p = p' := by
  obtain ⟨N, j, h1, h2, h3, h4⟩ := h
  obtain ⟨N', j', q1, q2, q3, q4⟩ := q
  have e : N = N' := by
    rcases Nat.lt_trichotomy N N' with w | w | w
    · have := q2 N w; omega
    · exact w
    · have := h2 N' w; omega
  subst e
  have e2 := pT_det _ _ _ _ _ h3 q3
  simp only [Prod.mk.injEq] at e2
  rw [h4, q4, e2.1, e2.2]
  exact ⟨rfl, rfl⟩
theorem spR_p {t : Nat → Int32} {S N i : Nat} {A : Nat → Nat → Int32} (h : spR t S N A) (hi : i ≤ N) : A 17 i = pcT t S i := by
  by_cases q : i < N
  · exact (h.2.1 i q).2.2
  · rw [show i = N by omega]; exact h.2.2
/-- behind a clause -/
def pC (o : Bool) (T : Nat → Int32) (N q i n : Nat) (r : Bool × Nat) : Prop := (T i = 3059 ∧ pT o T N q (i + 1) n r) ∨ (¬ T i = 3059 ∧ i < N ∧ r = (false, i)) ∨ (¬ T i = 3059 ∧ ¬ i < N ∧ r = (true, i))
theorem pT_s {o : Bool} {T : Nat → Int32} {N q i n j m : Nat} {r : Bool × Nat} (h : pG o T 8 (pK o) i n (true, j, m)) (g : pC o T N q j m r) : pT o T N (q + 1) i n r := Or.inr ⟨j, m, h, g⟩
theorem pT_f {o : Bool} {T : Nat → Int32} {N q i n j : Nat} (h : pG o T 8 (pK o) i n (false, j, 0)) : pT o T N (q + 1) i n (false, j) := Or.inl ⟨j, h, rfl⟩
theorem c12 {o : Bool} {T : Nat → Int32} {N c i n : Nat} {r : Bool × Nat} (hc : c < 12) (h : pT o T N (12 - (c + 1) + 1) i n r) : pT o T N (12 - c) i n r := by
  rw [show 12 - c = 12 - (c + 1) + 1 by omega]; exact h
theorem dX12_reads_0 : decode cX12_reads 0 = .ok (.aload_n 0, 1) := by decide +kernel
theorem dX12_reads_1 : decode cX12_reads 1 = .ok (.aload_n 0, 1) := by decide +kernel
theorem dX12_reads_2 : decode cX12_reads 2 = .ok (.getfield 138, 3) := by decide +kernel
theorem dX12_reads_5 : decode cX12_reads 5 = .ok (.invokevirtual 226, 3) := by decide +kernel
theorem dX12_reads_8 : decode cX12_reads 8 = .ok (.aload_n 0, 1) := by decide +kernel
theorem dX12_reads_9 : decode cX12_reads 9 = .ok (.iconst 0, 1) := by decide +kernel
theorem dX12_reads_10 : decode cX12_reads 10 = .ok (.putfield 138, 3) := by decide +kernel
theorem dX12_reads_13 : decode cX12_reads 13 = .ok (.aload_n 0, 1) := by decide +kernel
theorem dX12_reads_14 : decode cX12_reads 14 = .ok (.iconst 0, 1) := by decide +kernel
theorem dX12_reads_15 : decode cX12_reads 15 = .ok (.putfield 165, 3) := by decide +kernel
theorem dX12_reads_18 : decode cX12_reads 18 = .ok (.aload_n 0, 1) := by decide +kernel
theorem dX12_reads_19 : decode cX12_reads 19 = .ok (.iconst 0, 1) := by decide +kernel
theorem dX12_reads_20 : decode cX12_reads 20 = .ok (.putfield 174, 3) := by decide +kernel
theorem dX12_reads_23 : decode cX12_reads 23 = .ok (.aload_n 0, 1) := by decide +kernel
theorem dX12_reads_24 : decode cX12_reads 24 = .ok (.iconst (-1), 1) := by decide +kernel
theorem dX12_reads_25 : decode cX12_reads 25 = .ok (.putfield 158, 3) := by decide +kernel
theorem dX12_reads_28 : decode cX12_reads 28 = .ok (.aload_n 0, 1) := by decide +kernel
theorem dX12_reads_29 : decode cX12_reads 29 = .ok (.invokevirtual 229, 3) := by decide +kernel
theorem dX12_reads_32 : decode cX12_reads 32 = .ok (.iconst 1, 1) := by decide +kernel
theorem dX12_reads_33 : decode cX12_reads 33 = .ok (.istore_n 1, 1) := by decide +kernel
theorem dX12_reads_34 : decode cX12_reads 34 = .ok (.aload_n 0, 1) := by decide +kernel
theorem dX12_reads_35 : decode cX12_reads 35 = .ok (.bipush 59, 2) := by decide +kernel
theorem dX12_reads_37 : decode cX12_reads 37 = .ok (.invokestatic 207, 3) := by decide +kernel
theorem dX12_reads_40 : decode cX12_reads 40 = .ok (.invokevirtual 168, 3) := by decide +kernel
theorem dX12_reads_43 : decode cX12_reads 43 = .ok (.ifCond .eq 30, 3) := by decide +kernel
theorem dX12_reads_46 : decode cX12_reads 46 = .ok (.iload_n 1, 1) := by decide +kernel
theorem dX12_reads_47 : decode cX12_reads 47 = .ok (.bipush 12, 2) := by decide +kernel
theorem dX12_reads_49 : decode cX12_reads 49 = .ok (.if_icmp .ne 7, 3) := by decide +kernel
theorem dX12_reads_52 : decode cX12_reads 52 = .ok (.aload_n 0, 1) := by decide +kernel
theorem dX12_reads_53 : decode cX12_reads 53 = .ok (.invokevirtual 171, 3) := by decide +kernel
theorem dX12_reads_56 : decode cX12_reads 56 = .ok (.aload_n 0, 1) := by decide +kernel
theorem dX12_reads_57 : decode cX12_reads 57 = .ok (.invokevirtual 161, 3) := by decide +kernel
theorem dX12_reads_60 : decode cX12_reads 60 = .ok (.ifCond .eq 7, 3) := by decide +kernel
theorem dX12_reads_63 : decode cX12_reads 63 = .ok (.aload_n 0, 1) := by decide +kernel
theorem dX12_reads_64 : decode cX12_reads 64 = .ok (.invokevirtual 229, 3) := by decide +kernel
theorem dX12_reads_67 : decode cX12_reads 67 = .ok (.iinc 1 1, 3) := by decide +kernel
theorem dX12_reads_70 : decode cX12_reads 70 = .ok (.goto (-36), 3) := by decide +kernel
theorem dX12_reads_73 : decode cX12_reads 73 = .ok (.aload_n 0, 1) := by decide +kernel
theorem dX12_reads_74 : decode cX12_reads 74 = .ok (.invokevirtual 161, 3) := by decide +kernel
theorem dX12_reads_77 : decode cX12_reads 77 = .ok (.ifCond .eq 18, 3) := by decide +kernel
theorem dX12_reads_80 : decode cX12_reads 80 = .ok (.aload_n 0, 1) := by decide +kernel
theorem dX12_reads_81 : decode cX12_reads 81 = .ok (.getfield 165, 3) := by decide +kernel
theorem dX12_reads_84 : decode cX12_reads 84 = .ok (.aload_n 0, 1) := by decide +kernel
theorem dX12_reads_85 : decode cX12_reads 85 = .ok (.getfield 144, 3) := by decide +kernel
theorem dX12_reads_88 : decode cX12_reads 88 = .ok (.if_icmp .ge 7, 3) := by decide +kernel
theorem dX12_reads_91 : decode cX12_reads 91 = .ok (.aload_n 0, 1) := by decide +kernel
theorem dX12_reads_92 : decode cX12_reads 92 = .ok (.invokevirtual 171, 3) := by decide +kernel
theorem dX12_reads_95 : decode cX12_reads 95 = .ok (.aload_n 0, 1) := by decide +kernel
theorem dX12_reads_96 : decode cX12_reads 96 = .ok (.aload_n 0, 1) := by decide +kernel
theorem dX12_reads_97 : decode cX12_reads 97 = .ok (.getfield 158, 3) := by decide +kernel
theorem dX12_reads_100 : decode cX12_reads 100 = .ok (.putfield 47, 3) := by decide +kernel
theorem dX12_reads_103 : decode cX12_reads 103 = .ok (.aload_n 0, 1) := by decide +kernel
theorem dX12_reads_104 : decode cX12_reads 104 = .ok (.invokevirtual 161, 3) := by decide +kernel
theorem dX12_reads_107 : decode cX12_reads 107 = .ok (.ireturn, 1) := by decide +kernel
theorem wt6_177 : Cond.methodLink RX12 226 yX12_splits ∈ kG := kt6 177 rfl rfl
theorem wt6_179 : Cond.instanceMethod yX12_splits ∈ kG := kt6 179 rfl rfl
theorem wp4_2 : Cond.selects RX12 yX12_splits yX12_splits ∈ kG := kp4 2 rfl rfl
theorem wt6_180 : Cond.code yX12_splits cX12_splits 6 none ∈ kG := kt6 180 rfl rfl
theorem wt6_192 : Cond.methodLink RX12 229 yX12_readOne ∈ kG := kt6 192 rfl rfl
theorem wt6_194 : Cond.instanceMethod yX12_readOne ∈ kG := kt6 194 rfl rfl
theorem wp4_4 : Cond.selects RX12 yX12_readOne yX12_readOne ∈ kG := kp4 4 rfl rfl
theorem wt6_195 : Cond.code yX12_readOne cX12_readOne 1 none ∈ kG := kt6 195 rfl rfl
theorem kc_159 : kb 159 159 159 := ⟨by decide +kernel, by decide +kernel⟩
theorem kc_59 : kb 59 59 59 := ⟨by decide +kernel, by decide +kernel⟩
set_option maxHeartbeats 4000000 in
set_option maxRecDepth 100000 in
theorem q_reads  (l : Launch) {D : va_G} {K : Nat → ClassId} (o : Nat) (r : Nat → Nat) (f : Nat → Int32) (a : Nat → Nat → Int32) (g : Nat → Int64) (hI : mI f a)   (ob : Bool) (hp0 : f 10 = (if ob = true then 1 else 0)) (hp1 : f 8 = (if ob = true then 16 else 9)) (hp2 : f 9 = (if ob = true then 22 else 18)) : kI l yX12_reads (Cond.code yX12_reads cX12_reads 2 (some .boolean) :: kG) (rmD 50 0 0) D (tysK K) [.ref o] (mW K o r f a g) (fun v (u : mS) => kb 0 v 1 ∧ mI u.1 u.2.1 ∧ mF (XR []) f a u.1 u.2.1 ∧ u.1 13 = 0 ∧ (∃ (N : Nat) (b : Bool), (u.1 18).toInt = (N : Int) ∧ N ≤ 400 ∧ txR ob (a 11) (f 13).toInt.toNat b (u.1 14) ∧ v = (if b = true then 1 else 0) ∧ (b = true → gG ob (rC (u.2.1 15) N) 8 15 0 N)) ∧ u.2.1 11 = a 11 ∧ fE [13, 14, 18, 19, 20, 21] f u.1 ∧ (∀ N : Nat, (u.1 18).toInt = (N : Int) → rqP u.2.1 (a 11) (f 13).toInt.toNat N) ∧ mZ [13, 14, 18, 19, 20, 21] [15, 16, 17] f a u.1 u.2.1) (fun u => mW K o r u.1 u.2.1 u.2.2) 0 0 := by
  refine kI.of (cc := cX12_reads) (maxL := 2) (ret := (some .boolean)) (by decide) rfl (Nat.le_of_ble_eq_true rfl) ?_
  intro p e s m below meth c A hx hb hr hml hown hts hlocks hnm hK hP hD hS hA ls hl
  have hE : mF (XR []) f a f a := mF_rf
  have hZ : mZ [13, 14, 18, 19, 20, 21] [15, 16, 17] f a f a := mZ_rf
  have hg : ∀ w ∈ kG, w.before _ s = true := fun w h => hts w (List.mem_cons_of_mem _ h)
  have hown : s.vm.findClass RX12 = some m.cls := hown
  have hl : lv_has ls 2 [(0, .ref o)] := hl
  have hk0 : fE [13, 14, 18, 19, 20, 21] f f := fE_rf
  obtain ⟨c13, ec13⟩ : ∃ z : Int32, z = f 13 := ⟨_, rfl⟩
  have b1 : kb 0 c13 400 := kb_eq ec13 (fI_at hI.1 13 (by decide) (by decide))
  obtain ⟨S, hSd⟩ : ∃ S : Nat, S = (f 13).toInt.toNat := ⟨_, rfl⟩
  have hcS : c13.toInt = (S : Int) := by have w1 := (b1).1; rw [hSd, ← ec13]; omega
  refine lv_aload_n hx hb dX12_reads_0 rfl (lv_at hl 0 rfl) ?_
  refine lv_aload_n hx hb dX12_reads_1 rfl (lv_at hl 0 rfl) ?_
  refine va_get (D := D) (ci := 12) (v := .int (f 13)) (C := RX12) (T := TX12) (N := 48) hx hb hg inC12 hown hK hP 0 rfl rfl 13 (by decide) (hg _ wt5_173) (fun _ h9 => h9) rfl dX12_reads_2 ?_
  refine k_top (z := c13) ec13.symm ?_
  refine kV.callV (As := [.int c13]) (rest := []) ⟨hx, hb, hml, hown, hg⟩ (q_splits l o r f a g hI c13 b1 S hcS) (cwV 1 hg (kgV wt6_177 wt6_179 wp4_2 wt1_14 wt6_180) rfl rfl rfl (by decide +kernel) ⟨by decide, by decide⟩) hK hP hD hS hA mIs [] rfl (wr := []) rfl rfl rfl (fun i h => by cases h) 0 12 rfl rfl rfl hl.1 rfl (Nat.le_of_ble_eq_true rfl) dX12_reads_5 ⟨Nat.le_refl _, Nat.le_refl _⟩ (fun u4 H locs hw2 hP hD hS => ?_)
  obtain ⟨f5, a6, g7⟩ := u4
  have hP : va_P D vwCl (mW K o r f5 a6 g7) H := hP
  have hD : va_D A (mW K o r f5 a6 g7) := hD
  have hI : mI f5 a6 := hw2.1
  have hE : mF (XR []) f a f5 a6 := mF_tr hE (mF_of hw2.2.1)
  have eE8 : mE (XR []) f a f5 a6 := hw2.2.1
  have eZ9 : mZ [18] [15, 16, 17] f a f5 a6 := hw2.2.2.2.2
  have hZ : mZ [13, 14, 18, 19, 20, 21] [15, 16, 17] f a f5 a6 := mZ_tr hZ (mZ_w (by decide) (by decide) eZ9)
  have hk0 : fE [13, 14, 18, 19, 20, 21] f f5 := fE_tr hk0 (fE_w (by decide) hw2.2.2.1)
  obtain ⟨N, hN1, hN2, hN3, hsp⟩ := hw2.2.2.2.1
  obtain ⟨tn, etn⟩ : ∃ z : Int32, z = f5 18 := ⟨_, rfl⟩
  have htn : tn.toInt = (N : Int) := by rw [etn]; exact hN1
  have h11 : a6 11 = a 11 := hw2.2.1.2.1
  obtain ⟨T, hTd⟩ : ∃ T : Nat → Int32, T = tkT (a 11) S := ⟨_, rfl⟩
  have hp3 : rQ a6 N T := by rw [hTd]; exact spR_Q hsp
  refine lv_aload_n hx hb dX12_reads_8 rfl (lv_at hl 0 rfl) ?_
  refine lv_iconst (v := 0) hx hb dX12_reads_9 (by decide) ?_
  refine va_put (D := D) (ci := 12) (v := .int 0) (ty := .int) (C := RX12) (T := TX12) (N := 48) hx hb hg inC12 tyX12 tyX12_ok nmX12 hown hK hP hD hS 0 rfl rfl 13 (by decide) (hg _ wt5_173) (fun _ h9 => h9) rfl (by decide +kernel) rfl rfl (Nat.le_of_ble_eq_true rfl) dX12_reads_10 (fun H locs hP hD hS => ?_)
  have hP : va_P D vwCl (mW K o r (upd f5 13 0) a6 g7) H := hP
  have hD : va_D A (mW K o r (upd f5 13 0) a6 g7) := hD
  refine k_gen (P := fun z => va_P D vwCl (mW K o r z a6 g7) H ∧ va_D A (mW K o r z a6 g7) ∧ (mI z a6) ∧ (mF (XR []) f a z a6) ∧ (mZ [13, 14, 18, 19, 20, 21] [15, 16, 17] f a z a6) ∧ (fE [13, 14, 18, 19, 20, 21] f z)) (upd f5 13 0) ⟨hP, hD, (mI_f hI (fI_st hI.1 13 kc_0 (by decide) (by decide))), (mF_f hE), (mZ_f hZ rfl), (fE_f hk0 (by decide))⟩ (fun f_10 ef_10 hq => ?_)
  obtain ⟨hP, hD, hI, hE, hZ, hk0⟩ := hq
  refine lv_aload_n hx hb dX12_reads_13 rfl (lv_at hl 0 rfl) ?_
  refine lv_iconst (v := 0) hx hb dX12_reads_14 (by decide) ?_
  refine va_put (D := D) (ci := 12) (v := .int 0) (ty := .int) (C := RX12) (T := TX12) (N := 48) hx hb hg inC12 tyX12 tyX12_ok nmX12 hown hK hP hD hS 0 rfl rfl 19 (by decide) (hg _ wt5_179) (fun _ h9 => h9) rfl (by decide +kernel) rfl rfl (Nat.le_of_ble_eq_true rfl) dX12_reads_15 (fun H locs hP hD hS => ?_)
  have hP : va_P D vwCl (mW K o r (upd f_10 19 0) a6 g7) H := hP
  have hD : va_D A (mW K o r (upd f_10 19 0) a6 g7) := hD
  refine k_gen (P := fun z => va_P D vwCl (mW K o r z a6 g7) H ∧ va_D A (mW K o r z a6 g7) ∧ (mI z a6) ∧ (mF (XR []) f a z a6) ∧ (mZ [13, 14, 18, 19, 20, 21] [15, 16, 17] f a z a6) ∧ (fE [13, 14, 18, 19, 20, 21] f z)) (upd f_10 19 0) ⟨hP, hD, (mI_f hI (fI_st hI.1 19 kc_0 (by decide) (by decide))), (mF_f hE), (mZ_f hZ rfl), (fE_f hk0 (by decide))⟩ (fun f_11 ef_11 hq => ?_)
  obtain ⟨hP, hD, hI, hE, hZ, hk0⟩ := hq
  refine lv_aload_n hx hb dX12_reads_18 rfl (lv_at hl 0 rfl) ?_
  refine lv_iconst (v := 0) hx hb dX12_reads_19 (by decide) ?_
  refine va_put (D := D) (ci := 12) (v := .int 0) (ty := .int) (C := RX12) (T := TX12) (N := 48) hx hb hg inC12 tyX12 tyX12_ok nmX12 hown hK hP hD hS 0 rfl rfl 20 (by decide) (hg _ wt5_180) (fun _ h9 => h9) rfl (by decide +kernel) rfl rfl (Nat.le_of_ble_eq_true rfl) dX12_reads_20 (fun H locs hP hD hS => ?_)
  have hP : va_P D vwCl (mW K o r (upd f_11 20 0) a6 g7) H := hP
  have hD : va_D A (mW K o r (upd f_11 20 0) a6 g7) := hD
  refine k_gen (P := fun z => va_P D vwCl (mW K o r z a6 g7) H ∧ va_D A (mW K o r z a6 g7) ∧ (mI z a6) ∧ (mF (XR []) f a z a6) ∧ (mZ [13, 14, 18, 19, 20, 21] [15, 16, 17] f a z a6) ∧ (fE [13, 14, 18, 19, 20, 21] f z)) (upd f_11 20 0) ⟨hP, hD, (mI_f hI (fI_st hI.1 20 (kb_any _) (by decide) (by decide))), (mF_f hE), (mZ_f hZ rfl), (fE_f hk0 (by decide))⟩ (fun f_12 ef_12 hq => ?_)
  obtain ⟨hP, hD, hI, hE, hZ, hk0⟩ := hq
  refine lv_aload_n hx hb dX12_reads_23 rfl (lv_at hl 0 rfl) ?_
  refine lv_iconst (v := (-1)) hx hb dX12_reads_24 (by decide) ?_
  refine va_put (D := D) (ci := 12) (v := .int (-1)) (ty := .int) (C := RX12) (T := TX12) (N := 48) hx hb hg inC12 tyX12 tyX12_ok nmX12 hown hK hP hD hS 0 rfl rfl 21 (by decide) (hg _ wt5_181) (fun _ h9 => h9) rfl (by decide +kernel) rfl rfl (Nat.le_of_ble_eq_true rfl) dX12_reads_25 (fun H locs hP hD hS => ?_)
  have hP : va_P D vwCl (mW K o r (upd f_12 21 (-1)) a6 g7) H := hP
  have hD : va_D A (mW K o r (upd f_12 21 (-1)) a6 g7) := hD
  refine k_gen (P := fun z => va_P D vwCl (mW K o r z a6 g7) H ∧ va_D A (mW K o r z a6 g7) ∧ (mI z a6) ∧ (mF (XR []) f a z a6) ∧ (mZ [13, 14, 18, 19, 20, 21] [15, 16, 17] f a z a6) ∧ (fE [13, 14, 18, 19, 20, 21] f z)) (upd f_12 21 (-1)) ⟨hP, hD, (mI_f hI (fI_st hI.1 21 (kb_any _) (by decide) (by decide))), (mF_f hE), (mZ_f hZ rfl), (fE_f hk0 (by decide))⟩ (fun f_13 ef_13 hq => ?_)
  obtain ⟨hP, hD, hI, hE, hZ, hk0⟩ := hq
  have hk1 : rS f_13 a6 N ob := ⟨by rw [((show f_13 18 = f_12 18 from by rw [← ef_13]; rfl).trans ((show f_12 18 = f_11 18 from by rw [← ef_12]; rfl).trans ((show f_11 18 = f_10 18 from by rw [← ef_11]; rfl).trans ((show f_10 18 = f5 18 from by rw [← ef_10]; rfl).trans etn.symm))))]; exact htn, hN2, hN3, by rw [hk0 10 (by decide)]; exact hp0, by rw [hk0 8 (by decide)]; exact hp1, by rw [hk0 9 (by decide)]; exact hp2⟩
  have hk2 : f_13 13 = 0 := ((show f_13 13 = f_12 13 from by rw [← ef_13]; rfl).trans ((show f_12 13 = f_11 13 from by rw [← ef_12]; rfl).trans ((show f_11 13 = f_10 13 from by rw [← ef_11]; rfl).trans (show f_10 13 = 0 from by rw [← ef_10]; rfl))))
  refine lv_aload_n hx hb dX12_reads_28 rfl (lv_at hl 0 rfl) ?_
  refine kV.callV (As := []) (rest := []) ⟨hx, hb, hml, hown, hg⟩ (q_readOne l o r f_13 a6 g7 hI   N (0) (0) ob T hk1 (by rw [((show f_13 19 = f_12 19 from by rw [← ef_13]; rfl).trans ((show f_12 19 = f_11 19 from by rw [← ef_12]; rfl).trans (show f_11 19 = 0 from by rw [← ef_11]; rfl)))]; exact (by decide +kernel)) (Nat.zero_le N) hp3 (fun _ => ⟨(by rw [((show f_13 20 = f_12 20 from by rw [← ef_13]; rfl).trans (show f_12 20 = 0 from by rw [← ef_12]; rfl))]; exact (by decide +kernel)), (by decide)⟩)) (cwV 0 hg (kgV wt6_192 wt6_194 wp4_4 wt1_14 wt6_195) rfl rfl rfl (by decide +kernel) ⟨by decide, by decide⟩) hK hP hD hS hA mIs [] rfl (wr := []) rfl rfl rfl (fun i h => by cases h) 0 12 rfl rfl rfl hl.1 rfl (Nat.le_of_ble_eq_true rfl) dX12_reads_29 ⟨Nat.le_refl _, Nat.le_refl _⟩ (fun u16 H locs hw14 hP hD hS => ?_)
  have hP : va_P D vwCl (mW K o r u16 a6 g7) H := hP
  have hD : va_D A (mW K o r u16 a6 g7) := hD
  have hI : mI u16 a6 := hw14.1
  have eE17 : fE [19, 20, 21] f_13 u16 := hw14.2.1
  have hE : mF (XR []) f a u16 a6 := mF_fE hE eE17 (by decide)
  have hZ : mZ [13, 14, 18, 19, 20, 21] [15, 16, 17] f a u16 a6 := mZ_fE hZ (fE_w (by decide) eE17)
  have hk0 : fE [13, 14, 18, 19, 20, 21] f u16 := fE_tr hk0 (fE_w (by decide) eE17)
  have hk1 : rS u16 a6 N ob := rS_fE eE17 hk1 (by decide)
  have hk2 : u16 13 = 0 := (eE17 13 (by decide)).trans hk2
  obtain ⟨ik18, nk18, hgk18, hlek18, hNk18, hck18⟩ := hw14.2.2
  rcases hck18 with ⟨-, h2k18, h3k18, hGk18⟩ | ⟨-, hbk18, hGk18⟩ | hdk18
  · obtain ⟨gv19, egv19⟩ : ∃ z : Int32, z = u16 19 := ⟨_, rfl⟩
    have hg20 : gv19.toInt = ((ik18 : Nat) : Int) := by rw [egv19]; exact hgk18
    have b21 : kb 0 gv19 400 := kb_tok hk1 hNk18 hg20
    obtain ⟨z22, ez22⟩ : ∃ z : Int32, z = u16 20 := ⟨_, rfl⟩
    have hzz22 : z22.toInt = (nk18 : Int) := by rw [ez22]; exact h3k18.1
    refine lv_iconst (v := 1) hx hb dX12_reads_32 (by decide) ?_
    refine lv_istore_n (lv' := [(1, .int 1), (0, .ref o)]) hx hb dX12_reads_33 rfl hl (by decide) rfl (fun ls hl => ?_)
    have lp25 : ∀ (n26 : Nat) (i3 : Nat) (n3 : Nat) (cn : Nat) (F24 : Nat → Int32) (H : Heap) (locs : List Loc) (ls : Array Slot) (y23 : Int32), ((N : Int) < (i3 : Int) + (n26 : Int)) → (mI F24 a6) → (mF (XR []) f a F24 a6) → (mZ [13, 14, 18, 19, 20, 21] [15, 16, 17] f a F24 a6) → (fE [13, 14, 18, 19, 20, 21] f F24) → (rS F24 a6 N ob) → (F24 13 = 0) → (kb 1 y23 13) → ((F24 19).toInt = (i3 : Int)) → (i3 ≤ N) → ((F24 21 = -1 ∧ ((F24 20).toInt = (n3 : Int) ∧ n3 ≤ 50) ∧ (y23.toInt = (cn : Int) ∧ 1 ≤ cn ∧ cn ≤ 12) ∧ ∀ r, pC ob T N (12 - cn) i3 n3 r → pT ob T N 12 0 0 r) ∨ ((F24 21 = a6 17 i3 ∧ ¬ F24 21 = -1) ∧ pT ob T N 12 0 0 (false, i3))) → va_P D vwCl (mW K o r F24 a6 g7) H → va_D A (mW K o r F24 a6 g7) → va_S A s.heap H locs → lv_has ls 2 [(1, .int y23), (0, .ref o)] → W p l e (rmD 50 0 0) s m ([.ref o] : List Value).toArray below meth c H locs 0 0 (kQi D (tysK K) (fun v (u : mS) => kb 0 v 1 ∧ mI u.1 u.2.1 ∧ mF (XR []) f a u.1 u.2.1 ∧ u.1 13 = 0 ∧ (∃ (N : Nat) (b : Bool), (u.1 18).toInt = (N : Int) ∧ N ≤ 400 ∧ txR ob (a 11) (f 13).toInt.toNat b (u.1 14) ∧ v = (if b = true then 1 else 0) ∧ (b = true → gG ob (rC (u.2.1 15) N) 8 15 0 N)) ∧ u.2.1 11 = a 11 ∧ fE [13, 14, 18, 19, 20, 21] f u.1 ∧ (∀ N : Nat, (u.1 18).toInt = (N : Int) → rqP u.2.1 (a 11) (f 13).toInt.toNat N) ∧ mZ [13, 14, 18, 19, 20, 21] [15, 16, 17] f a u.1 u.2.1) (fun u => mW K o r u.1 u.2.1 u.2.2) A below ([.ref o] : List Value).toArray s 0 0) (F0 m 34 ls []) := by
      intro n26
      induction n26 with
      | zero =>
        intro i3 n3 cn F24  H locs ls y23 hmlp25 hI hE hZ hk0 hk1 hk2 b27 hvlp25_0 hvlp25_1 hvlp25_2 hP hD hS hl
        exact (by have w1 := hmlp25; have w2 := hvlp25_1; omega : False).elim
      | succ n26 ihlp25 =>
        intro i3 n3 cn F24  H locs ls y23 hmlp25 hI hE hZ hk0 hk1 hk2 b27 hvlp25_0 hvlp25_1 hvlp25_2 hP hD hS hl
        obtain ⟨gv28, egv28⟩ : ∃ z : Int32, z = F24 19 := ⟨_, rfl⟩
        have hg29 : gv28.toInt = ((i3 : Nat) : Int) := by rw [egv28]; exact hvlp25_0
        have b30 : kb 0 gv28 400 := kb_tok hk1 hvlp25_1 hg29
        rcases hvlp25_2 with ⟨h2x, h3x, hcn, xc⟩ | ⟨hbd, xb⟩
        · obtain ⟨z31, ez31⟩ : ∃ z : Int32, z = F24 20 := ⟨_, rfl⟩
          have hzz31 : z31.toInt = (n3 : Int) := by rw [ez31]; exact h3x.1
          have b32 : kb 1 y23 12 := ⟨by omega, by omega⟩
          refine lv_aload_n hx hb dX12_reads_34 rfl (lv_at hl 1 rfl) ?_
          refine lv_bipush (v := 59) hx hb dX12_reads_35 (by decide) ?_
          refine kN.callS (As := [.int 59]) (rest := [.ref o]) ⟨hx, hb, hml, hown, hg⟩ (m_sign l 59 (kb_w kc_59 (by decide) (by decide))) (va_cwS 1 hg (kgS wt6_220 wt6_221 wt1_14 wt6_222) rfl rfl rfl (by decide +kernel) ⟨by decide, by decide⟩) hP hS rfl hl.1 rfl (Nat.le_of_ble_eq_true rfl) dX12_reads_37 ⟨Nat.le_refl _, Nat.le_refl _⟩ (fun v34 H locs hw33 hP hS => ?_)
          refine k_top (z := 159) (Int32.toInt_inj.mp (hw33.2.trans (by decide +kernel))) ?_
          refine kI.callV (As := [.int 159]) (rest := []) ⟨hx, hb, hml, hown, hg⟩ (q_takes0 l o r F24 a6 g7 hI 159 (kb_w kc_159 (by decide) (by decide)) N (i3) ob T hk1 (by rw [egv28.symm]; exact hg29) hvlp25_1 hp3 (by decide +kernel)) (cwV 1 hg (kgV wt6_200 wt6_202 wp4_6 wt1_14 wt6_203) rfl rfl rfl (by decide +kernel) ⟨by decide, by decide⟩) hK hP hD hS hA mIs [] rfl (wr := []) rfl rfl rfl (fun i h => by cases h) 0 12 rfl rfl rfl hl.1 rfl (Nat.le_of_ble_eq_true rfl) dX12_reads_40 ⟨Nat.le_refl _, Nat.le_refl _⟩ (fun v37 u38 H locs hw36 hP hD hS => ?_)
          have hP : va_P D vwCl (mW K o r u38 a6 g7) H := hP
          have hD : va_D A (mW K o r u38 a6 g7) := hD
          have hI : mI u38 a6 := hw36.2.1
          have eE39 : fE [19] F24 u38 := hw36.2.2.1
          have hE : mF (XR []) f a u38 a6 := mF_fE hE eE39 (by decide)
          have hZ : mZ [13, 14, 18, 19, 20, 21] [15, 16, 17] f a u38 a6 := mZ_fE hZ (fE_w (by decide) eE39)
          have hk0 : fE [13, 14, 18, 19, 20, 21] f u38 := fE_tr hk0 (fE_w (by decide) eE39)
          have hk1 : rS u38 a6 N ob := rS_fE eE39 hk1 (by decide)
          have hk2 : u38 13 = 0 := (eE39 13 (by decide)).trans hk2
          rcases hw36.2.2.2 with ⟨hvk40, hbk40, htk40, hpk40, hlk40⟩ | ⟨hvk40, hnk40, hpk40⟩
          · refine k_top (z := 1) hvk40 ?_
            obtain ⟨gv41, egv41⟩ : ∃ z : Int32, z = u38 19 := ⟨_, rfl⟩
            have hg42 : gv41.toInt = ((i3 + 1 : Nat) : Int) := by rw [egv41]; exact hpk40
            have b43 : kb 0 gv41 400 := kb_tok hk1 hlk40 hg42
            have hTk40 : T (i3) = 3059 := htk40.trans (by decide +kernel)
            refine lv_if_eq (tgt := 73) hx hb dX12_reads_43 (by decide) (fun c44 => ?_) (fun c44 => ?_)
            · exact kb_dj c44 kc_1 kc_0 (by decide)
            · refine lv_iload_n hx hb dX12_reads_46 rfl (lv_at hl 0 rfl) ?_
              refine lv_bipush (v := 12) hx hb dX12_reads_47 (by decide) ?_
              refine lv_icmp_ne (tgt := 56) hx hb dX12_reads_49 (by decide) (fun c45 => ?_) (fun c45 => ?_)
              · have b46 : kb 1 y23 11 := kr_neh c45 b32 kc_12 (by decide)
                refine lv_aload_n hx hb dX12_reads_56 rfl (lv_at hl 1 rfl) ?_
                refine kI.callV (As := []) (rest := []) ⟨hx, hb, hml, hown, hg⟩ (m_fine l o r u38 a6 g7 hI   ) (cwV 0 hg (kgV wt6_204 wt6_206 wp4_7 wt1_14 wt6_207) rfl rfl rfl (by decide +kernel) ⟨by decide, by decide⟩) hK hP hD hS hA mIs [] rfl (wr := []) rfl rfl rfl (fun i h => by cases h) 0 12 rfl rfl rfl hl.1 rfl (Nat.le_of_ble_eq_true rfl) dX12_reads_57 ⟨Nat.le_refl _, Nat.le_refl _⟩ (fun v48 u49 H locs hw47 hP hD hS => ?_)
                have hP : va_P D vwCl (mW K o r u38 a6 g7) H := hP
                have hD : va_D A (mW K o r u38 a6 g7) := hD
                refine k_top (z := 1) ((hw47.2).elim (fun q => q.1) (fun q => absurd ((eE39 21 (by decide)).trans h2x) q.2)) ?_
                refine lv_if_eq (tgt := 67) hx hb dX12_reads_60 (by decide) (fun c50 => ?_) (fun c50 => ?_)
                · exact kb_dj c50 kc_1 kc_0 (by decide)
                · refine lv_aload_n hx hb dX12_reads_63 rfl (lv_at hl 1 rfl) ?_
                  refine kV.callV (As := []) (rest := []) ⟨hx, hb, hml, hown, hg⟩ (q_readOne l o r u38 a6 g7 hI   N (i3 + 1) (n3) ob T hk1 (by rw [egv41.symm]; exact hg42) hlk40 hp3 (fun _ => ⟨(by rw [((eE39 20 (by decide)).trans ez31.symm)]; exact hzz31), h3x.2⟩)) (cwV 0 hg (kgV wt6_192 wt6_194 wp4_4 wt1_14 wt6_195) rfl rfl rfl (by decide +kernel) ⟨by decide, by decide⟩) hK hP hD hS hA mIs [] rfl (wr := []) rfl rfl rfl (fun i h => by cases h) 0 12 rfl rfl rfl hl.1 rfl (Nat.le_of_ble_eq_true rfl) dX12_reads_64 ⟨Nat.le_refl _, Nat.le_refl _⟩ (fun u53 H locs hw51 hP hD hS => ?_)
                  have hP : va_P D vwCl (mW K o r u53 a6 g7) H := hP
                  have hD : va_D A (mW K o r u53 a6 g7) := hD
                  have hI : mI u53 a6 := hw51.1
                  have eE54 : fE [19, 20, 21] u38 u53 := hw51.2.1
                  have hE : mF (XR []) f a u53 a6 := mF_fE hE eE54 (by decide)
                  have hZ : mZ [13, 14, 18, 19, 20, 21] [15, 16, 17] f a u53 a6 := mZ_fE hZ (fE_w (by decide) eE54)
                  have hk0 : fE [13, 14, 18, 19, 20, 21] f u53 := fE_tr hk0 (fE_w (by decide) eE54)
                  have hk1 : rS u53 a6 N ob := rS_fE eE54 hk1 (by decide)
                  have hk2 : u53 13 = 0 := (eE54 13 (by decide)).trans hk2
                  obtain ⟨ik55, nk55, hgk55, hlek55, hNk55, hck55⟩ := hw51.2.2
                  rcases hck55 with ⟨-, h2k55, h3k55, hGk55⟩ | ⟨-, hbk55, hGk55⟩ | hdk55
                  · obtain ⟨gv56, egv56⟩ : ∃ z : Int32, z = u53 19 := ⟨_, rfl⟩
                    have hg57 : gv56.toInt = ((ik55 : Nat) : Int) := by rw [egv56]; exact hgk55
                    have b58 : kb 0 gv56 400 := kb_tok hk1 hNk55 hg57
                    obtain ⟨z59, ez59⟩ : ∃ z : Int32, z = u53 20 := ⟨_, rfl⟩
                    have hzz59 : z59.toInt = (nk55 : Int) := by rw [ez59]; exact h3k55.1
                    obtain ⟨t60, et60⟩ : ∃ z : Int32, z = y23 + Int32.ofInt 1 := ⟨_, rfl⟩
                    have qt60 : t60.toInt = y23.toInt + 1 := by rw [et60]; exact km_inc b46 (by decide) (by decide)
                    have b61 : kb 2 t60 12 := kb_inc (k := 1) qt60 b46
                    refine lv_iinc (v := t60) (lv' := [(1, .int t60), (0, .ref o)]) hx hb dX12_reads_67 hl (k := 0) rfl et60.symm (by decide) rfl (fun ls hl => ?_)
                    refine lv_goto (tgt := 34) hx hb dX12_reads_70 (by decide) ?_
                    exact ihlp25 (ik55) (nk55) (cn + 1) u53 _ _ _ t60 (by omega) hI hE hZ hk0 hk1 hk2 (kb_w b61 (by decide) (by decide)) (by rw [egv56.symm]; exact hg57) (hNk55) (Or.inl ⟨h2k55, ⟨(by rw [ez59.symm]; exact hzz59), h3k55.2⟩, ⟨by have w1 := hcn; omega, by omega, by have w1 := hcn; have w2 := (b46).2; omega⟩, fun r h => xc r (Or.inl ⟨hTk40, c12 (by have w1 := hcn; have w2 := (b46).2; omega) (pT_s hGk55 h)⟩)⟩) hP hD hS (lv_sub hl [0, 1] rfl)
                  · obtain ⟨gv62, egv62⟩ : ∃ z : Int32, z = u53 19 := ⟨_, rfl⟩
                    have hg63 : gv62.toInt = ((ik55 : Nat) : Int) := by rw [egv62]; exact hgk55
                    have b64 : kb 0 gv62 400 := kb_tok hk1 hNk55 hg63
                    obtain ⟨z65, ez65⟩ : ∃ z : Int32, z = u53 21 := ⟨_, rfl⟩
                    have haz65 : z65 = a6 17 (ik55) := by rw [ez65]; exact hbk55.1
                    have hnz65 : ¬ z65 = -1 := by rw [ez65]; exact hbk55.2
                    obtain ⟨t66, et66⟩ : ∃ z : Int32, z = y23 + Int32.ofInt 1 := ⟨_, rfl⟩
                    have qt66 : t66.toInt = y23.toInt + 1 := by rw [et66]; exact km_inc b46 (by decide) (by decide)
                    have b67 : kb 2 t66 12 := kb_inc (k := 1) qt66 b46
                    refine lv_iinc (v := t66) (lv' := [(1, .int t66), (0, .ref o)]) hx hb dX12_reads_67 hl (k := 0) rfl et66.symm (by decide) rfl (fun ls hl => ?_)
                    refine lv_goto (tgt := 34) hx hb dX12_reads_70 (by decide) ?_
                    exact ihlp25 (ik55) (0) (cn + 1) u53 _ _ _ t66 (by omega) hI hE hZ hk0 hk1 hk2 (kb_w b67 (by decide) (by decide)) (by rw [egv62.symm]; exact hg63) (hNk55) (Or.inr ⟨⟨(ez65.symm).trans haz65, (fun q => hnz65 ((ez65.symm).symm.trans q))⟩, xc _ (Or.inl ⟨hTk40, c12 (by have w1 := hcn; have w2 := (b46).2; omega) (pT_f hGk55)⟩)⟩) hP hD hS (lv_sub hl [0, 1] rfl)
                  · exact absurd ((eE39 21 (by decide)).trans h2x) hdk55.1
              · have b68 : kb 12 y23 12 := kb_eq c45 kc_12
                refine lv_aload_n hx hb dX12_reads_52 rfl (lv_at hl 1 rfl) ?_
                refine kV.callV (As := []) (rest := []) ⟨hx, hb, hml, hown, hg⟩ (q_faults l o r u38 a6 g7 hI   N (i3 + 1) ob T hk1 (by rw [egv41.symm]; exact hg42) hlk40 hp3) (cwV 0 hg (kgV wt6_223 wt6_225 wp4_11 wt1_14 wt6_226) rfl rfl rfl (by decide +kernel) ⟨by decide, by decide⟩) hK hP hD hS hA mIs [] rfl (wr := []) rfl rfl rfl (fun i h => by cases h) 0 12 rfl rfl rfl hl.1 rfl (Nat.le_of_ble_eq_true rfl) dX12_reads_53 ⟨Nat.le_refl _, Nat.le_refl _⟩ (fun u71 H locs hw69 hP hD hS => ?_)
                have hP : va_P D vwCl (mW K o r u71 a6 g7) H := hP
                have hD : va_D A (mW K o r u71 a6 g7) := hD
                have hI : mI u71 a6 := hw69.1
                have eE72 : fE [21] u38 u71 := hw69.2.1
                have hE : mF (XR []) f a u71 a6 := mF_fE hE eE72 (by decide)
                have hZ : mZ [13, 14, 18, 19, 20, 21] [15, 16, 17] f a u71 a6 := mZ_fE hZ (fE_w (by decide) eE72)
                have hk0 : fE [13, 14, 18, 19, 20, 21] f u71 := fE_tr hk0 (fE_w (by decide) eE72)
                have hk1 : rS u71 a6 N ob := rS_fE eE72 hk1 (by decide)
                have hk2 : u71 13 = 0 := (eE72 13 (by decide)).trans hk2
                obtain ⟨z73, ez73⟩ : ∃ z : Int32, z = u71 21 := ⟨_, rfl⟩
                have haz73 : z73 = a6 17 (i3 + 1) := by rw [ez73]; exact (hw69.2.2.1 ((eE39 21 (by decide)).trans h2x)).1
                have hnz73 : ¬ z73 = -1 := by rw [ez73]; exact (hw69.2.2.1 ((eE39 21 (by decide)).trans h2x)).2
                refine lv_aload_n hx hb dX12_reads_56 rfl (lv_at hl 1 rfl) ?_
                refine kI.callV (As := []) (rest := []) ⟨hx, hb, hml, hown, hg⟩ (m_fine l o r u71 a6 g7 hI   ) (cwV 0 hg (kgV wt6_204 wt6_206 wp4_7 wt1_14 wt6_207) rfl rfl rfl (by decide +kernel) ⟨by decide, by decide⟩) hK hP hD hS hA mIs [] rfl (wr := []) rfl rfl rfl (fun i h => by cases h) 0 12 rfl rfl rfl hl.1 rfl (Nat.le_of_ble_eq_true rfl) dX12_reads_57 ⟨Nat.le_refl _, Nat.le_refl _⟩ (fun v75 u76 H locs hw74 hP hD hS => ?_)
                have hP : va_P D vwCl (mW K o r u71 a6 g7) H := hP
                have hD : va_D A (mW K o r u71 a6 g7) := hD
                refine k_top (z := 0) ((hw74.2).elim (fun q => absurd q.2 (fun q => hnz73 ((ez73.symm).symm.trans q))) (fun q => q.1)) ?_
                refine lv_if_eq (tgt := 67) hx hb dX12_reads_60 (by decide) (fun c77 => ?_) (fun c77 => ?_)
                · obtain ⟨t78, et78⟩ : ∃ z : Int32, z = y23 + Int32.ofInt 1 := ⟨_, rfl⟩
                  have qt78 : t78.toInt = y23.toInt + 1 := by rw [et78]; exact km_inc b68 (by decide) (by decide)
                  have b79 : kb 13 t78 13 := kb_inc (k := 1) qt78 b68
                  refine lv_iinc (v := t78) (lv' := [(1, .int t78), (0, .ref o)]) hx hb dX12_reads_67 hl (k := 0) rfl et78.symm (by decide) rfl (fun ls hl => ?_)
                  refine lv_goto (tgt := 34) hx hb dX12_reads_70 (by decide) ?_
                  exact ihlp25 (i3 + 1) (0) (cn + 1) u71 _ _ _ t78 (by omega) hI hE hZ hk0 hk1 hk2 (kb_w b79 (by decide) (by decide)) (by rw [((eE72 19 (by decide)).trans egv41.symm)]; exact hg42) (hlk40) (Or.inr ⟨⟨(ez73.symm).trans haz73, (fun q => hnz73 ((ez73.symm).symm.trans q))⟩, xc _ (Or.inl ⟨hTk40, by have w1 := hcn; have w2 := congrArg Int32.toInt c45; have w3 : (12 : Int32).toInt = 12 := (by decide +kernel); rw [show 12 - cn = 0 by omega]; exact rfl⟩)⟩) hP hD hS (lv_sub hl [0, 1] rfl)
                · exact kb_nsame c77 kc_0 kc_0
          · refine k_top (z := 0) hvk40 ?_
            obtain ⟨gv80, egv80⟩ : ∃ z : Int32, z = u38 19 := ⟨_, rfl⟩
            have hg81 : gv80.toInt = ((i3 : Nat) : Int) := by rw [egv80]; exact hpk40
            have b82 : kb 0 gv80 400 := kb_tok hk1 hvlp25_1 hg81
            have hTk40 : ¬ T (i3) = 3059 := fun q => (hnk40 h2x) (q.trans (by decide +kernel))
            refine lv_if_eq (tgt := 73) hx hb dX12_reads_43 (by decide) (fun c83 => ?_) (fun c83 => ?_)
            · refine lv_aload_n hx hb dX12_reads_73 rfl (lv_at hl 1 rfl) ?_
              refine kI.callV (As := []) (rest := []) ⟨hx, hb, hml, hown, hg⟩ (m_fine l o r u38 a6 g7 hI   ) (cwV 0 hg (kgV wt6_204 wt6_206 wp4_7 wt1_14 wt6_207) rfl rfl rfl (by decide +kernel) ⟨by decide, by decide⟩) hK hP hD hS hA mIs [] rfl (wr := []) rfl rfl rfl (fun i h => by cases h) 0 12 rfl rfl rfl hl.1 rfl (Nat.le_of_ble_eq_true rfl) dX12_reads_74 ⟨Nat.le_refl _, Nat.le_refl _⟩ (fun v85 u86 H locs hw84 hP hD hS => ?_)
              have hP : va_P D vwCl (mW K o r u38 a6 g7) H := hP
              have hD : va_D A (mW K o r u38 a6 g7) := hD
              refine k_top (z := 1) ((hw84.2).elim (fun q => q.1) (fun q => absurd ((eE39 21 (by decide)).trans h2x) q.2)) ?_
              refine lv_if_eq (tgt := 95) hx hb dX12_reads_77 (by decide) (fun c87 => ?_) (fun c87 => ?_)
              · exact kb_dj c87 kc_1 kc_0 (by decide)
              · refine lv_aload_n hx hb dX12_reads_80 rfl (lv_at hl 1 rfl) ?_
                refine va_get (D := D) (ci := 12) (v := .int (u38 19)) (C := RX12) (T := TX12) (N := 48) hx hb hg inC12 hown hK hP 0 rfl rfl 19 (by decide) (hg _ wt5_179) (fun _ h9 => h9) rfl dX12_reads_81 ?_
                refine k_top (z := gv80) egv80.symm ?_
                refine lv_aload_n hx hb dX12_reads_84 rfl (lv_at hl 1 rfl) ?_
                refine va_get (D := D) (ci := 12) (v := .int (u38 18)) (C := RX12) (T := TX12) (N := 48) hx hb hg inC12 hown hK hP 0 rfl rfl 18 (by decide) (hg _ wt5_178) (fun _ h9 => h9) rfl dX12_reads_85 ?_
                refine lv_topi (fun t88 et88 => ?_)
                have b89 : kb 0 t88 400 := kb_eq et88 (fI_at hI.1 18 (by decide) (by decide))
                refine lv_icmp_ge (tgt := 95) hx hb dX12_reads_88 (by decide) (fun c90 => ?_) (fun c90 => ?_)
                · have h91 := (kc_le c90)
                  have ht18 : t88.toInt = (N : Int) := by rw [et88]; exact hk1.1
                  have hel : ¬ i3 < N := by have w1 := hg81; have w2 := htn; first | (have w3 := kc_le c90; omega) | (have w3 := kc_nlt c90; omega)
                  refine lv_aload_n hx hb dX12_reads_95 rfl (lv_at hl 1 rfl) ?_
                  refine lv_aload_n hx hb dX12_reads_96 rfl (lv_at hl 1 rfl) ?_
                  refine va_get (D := D) (ci := 12) (v := .int (u38 21)) (C := RX12) (T := TX12) (N := 48) hx hb hg inC12 hown hK hP 0 rfl rfl 21 (by decide) (hg _ wt5_181) (fun _ h9 => h9) rfl dX12_reads_97 ?_
                  refine k_top (z := (-1)) ((eE39 21 (by decide)).trans h2x) ?_
                  refine va_put (D := D) (ci := 12) (v := .int (-1)) (ty := .int) (C := RX12) (T := TX12) (N := 48) hx hb hg inC12 tyX12 tyX12_ok nmX12 hown hK hP hD hS 0 rfl rfl 14 (by decide) (hg _ wt5_174) (fun _ h9 => h9) rfl (by decide +kernel) rfl rfl (Nat.le_of_ble_eq_true rfl) dX12_reads_100 (fun H locs hP hD hS => ?_)
                  have hP : va_P D vwCl (mW K o r (upd u38 14 (-1)) a6 g7) H := hP
                  have hD : va_D A (mW K o r (upd u38 14 (-1)) a6 g7) := hD
                  refine k_gen (P := fun z => va_P D vwCl (mW K o r z a6 g7) H ∧ va_D A (mW K o r z a6 g7) ∧ (mI z a6) ∧ (mF (XR []) f a z a6) ∧ (mZ [13, 14, 18, 19, 20, 21] [15, 16, 17] f a z a6) ∧ (fE [13, 14, 18, 19, 20, 21] f z) ∧ (rS z a6 N ob) ∧ (z 13 = 0)) (upd u38 14 (-1)) ⟨hP, hD, (mI_f hI (fI_st hI.1 14 (kb_any _) (by decide) (by decide))), (mF_f hE), (mZ_f hZ rfl), (fE_f hk0 (by decide)), (rS_f hk1 (by decide) (by decide) (by decide) (by decide)), ((pk_un (by decide)).trans hk2)⟩ (fun f_92 ef_92 hq => ?_)
                  obtain ⟨hP, hD, hI, hE, hZ, hk0, hk1, hk2⟩ := hq
                  refine lv_aload_n hx hb dX12_reads_103 rfl (lv_at hl 1 rfl) ?_
                  refine kI.callV (As := []) (rest := []) ⟨hx, hb, hml, hown, hg⟩ (m_fine l o r f_92 a6 g7 hI   ) (cwV 0 hg (kgV wt6_204 wt6_206 wp4_7 wt1_14 wt6_207) rfl rfl rfl (by decide +kernel) ⟨by decide, by decide⟩) hK hP hD hS hA mIs [] rfl (wr := []) rfl rfl rfl (fun i h => by cases h) 0 12 rfl rfl rfl hl.1 rfl (Nat.le_of_ble_eq_true rfl) dX12_reads_104 ⟨Nat.le_refl _, Nat.le_refl _⟩ (fun v94 u95 H locs hw93 hP hD hS => ?_)
                  have hP : va_P D vwCl (mW K o r f_92 a6 g7) H := hP
                  have hD : va_D A (mW K o r f_92 a6 g7) := hD
                  refine k_top (z := 1) ((hw93.2).elim (fun q => q.1) (fun q => absurd ((show f_92 21 = u38 21 from by rw [← ef_92]; rfl).trans ((eE39 21 (by decide)).trans h2x)) q.2)) ?_
                  exact kI_ret (v := 1) hx hb hr hlocks (by decide +kernel) hK hS dX12_reads_107 (f_92, a6, g7) hP hD ⟨(kb_w kc_1 (by decide) (by decide)), hI, hE, hk2, ⟨N, true, (hk1).1, hN2, (show txR ob (a 11) (f 13).toInt.toNat true (f_92 14) from (by rw [← hSd]; exact ⟨N, i3, hsp.1, fun i hi => (hsp.2.1 i hi).1, (by rw [← hTd]; exact (xc _ (Or.inr (Or.inr ⟨hTk40, hel, rfl⟩)))), (show f_92 14 = (-1) from by rw [← ef_92]; rfl)⟩)), rfl, fun _ => by have w1 := (pTG (rQ_all hp3) _ _ _ _ (xc _ (Or.inr (Or.inr ⟨hTk40, hel, rfl⟩)))).1; have w2 := hel; have w3 : i3 = N := (by have w4 := hvlp25_1; omega); rw [w3] at w1; exact w1⟩, h11, hk0, (fun M hM => by have w1 : (f_92 18).toInt = (M : Int) := hM; have w2 := hk1.1; rw [← hSd, show M = N by omega]; exact ⟨by rw [← hTd]; exact hp3, hsp.1, fun i hi => (hsp.2.1 i hi).1⟩), hZ⟩
                · have h96 := (kc_nle c90)
                  have b97 : kb 0 gv80 399 := kr_lt1 h96 b82 b89 (by decide)
                  have b98 : kb 1 t88 400 := kr_lt2 h96 b82 b89 (by decide)
                  have ht18 : t88.toInt = (N : Int) := by rw [et88]; exact hk1.1
                  have hel : i3 < N := by have w1 := hg81; have w2 := htn; first | (have w3 := kc_nle c90; omega) | (have w3 := kc_lt c90; omega)
                  refine lv_aload_n hx hb dX12_reads_91 rfl (lv_at hl 1 rfl) ?_
                  refine kV.callV (As := []) (rest := []) ⟨hx, hb, hml, hown, hg⟩ (q_faults l o r u38 a6 g7 hI   N (i3) ob T hk1 (by rw [egv80.symm]; exact hg81) hvlp25_1 hp3) (cwV 0 hg (kgV wt6_223 wt6_225 wp4_11 wt1_14 wt6_226) rfl rfl rfl (by decide +kernel) ⟨by decide, by decide⟩) hK hP hD hS hA mIs [] rfl (wr := []) rfl rfl rfl (fun i h => by cases h) 0 12 rfl rfl rfl hl.1 rfl (Nat.le_of_ble_eq_true rfl) dX12_reads_92 ⟨Nat.le_refl _, Nat.le_refl _⟩ (fun u101 H locs hw99 hP hD hS => ?_)
                  have hP : va_P D vwCl (mW K o r u101 a6 g7) H := hP
                  have hD : va_D A (mW K o r u101 a6 g7) := hD
                  have hI : mI u101 a6 := hw99.1
                  have eE102 : fE [21] u38 u101 := hw99.2.1
                  have hE : mF (XR []) f a u101 a6 := mF_fE hE eE102 (by decide)
                  have hZ : mZ [13, 14, 18, 19, 20, 21] [15, 16, 17] f a u101 a6 := mZ_fE hZ (fE_w (by decide) eE102)
                  have hk0 : fE [13, 14, 18, 19, 20, 21] f u101 := fE_tr hk0 (fE_w (by decide) eE102)
                  have hk1 : rS u101 a6 N ob := rS_fE eE102 hk1 (by decide)
                  have hk2 : u101 13 = 0 := (eE102 13 (by decide)).trans hk2
                  obtain ⟨z103, ez103⟩ : ∃ z : Int32, z = u101 21 := ⟨_, rfl⟩
                  have haz103 : z103 = a6 17 (i3) := by rw [ez103]; exact (hw99.2.2.1 ((eE39 21 (by decide)).trans h2x)).1
                  have hnz103 : ¬ z103 = -1 := by rw [ez103]; exact (hw99.2.2.1 ((eE39 21 (by decide)).trans h2x)).2
                  refine lv_aload_n hx hb dX12_reads_95 rfl (lv_at hl 1 rfl) ?_
                  refine lv_aload_n hx hb dX12_reads_96 rfl (lv_at hl 1 rfl) ?_
                  refine va_get (D := D) (ci := 12) (v := .int (u101 21)) (C := RX12) (T := TX12) (N := 48) hx hb hg inC12 hown hK hP 0 rfl rfl 21 (by decide) (hg _ wt5_181) (fun _ h9 => h9) rfl dX12_reads_97 ?_
                  refine k_top (z := z103) ez103.symm ?_
                  refine va_put (D := D) (ci := 12) (v := .int z103) (ty := .int) (C := RX12) (T := TX12) (N := 48) hx hb hg inC12 tyX12 tyX12_ok nmX12 hown hK hP hD hS 0 rfl rfl 14 (by decide) (hg _ wt5_174) (fun _ h9 => h9) rfl (by decide +kernel) rfl rfl (Nat.le_of_ble_eq_true rfl) dX12_reads_100 (fun H locs hP hD hS => ?_)
                  have hP : va_P D vwCl (mW K o r (upd u101 14 z103) a6 g7) H := hP
                  have hD : va_D A (mW K o r (upd u101 14 z103) a6 g7) := hD
                  refine k_gen (P := fun z => va_P D vwCl (mW K o r z a6 g7) H ∧ va_D A (mW K o r z a6 g7) ∧ (mI z a6) ∧ (mF (XR []) f a z a6) ∧ (mZ [13, 14, 18, 19, 20, 21] [15, 16, 17] f a z a6) ∧ (fE [13, 14, 18, 19, 20, 21] f z) ∧ (rS z a6 N ob) ∧ (z 13 = 0)) (upd u101 14 z103) ⟨hP, hD, (mI_f hI (fI_st hI.1 14 (kb_any _) (by decide) (by decide))), (mF_f hE), (mZ_f hZ rfl), (fE_f hk0 (by decide)), (rS_f hk1 (by decide) (by decide) (by decide) (by decide)), ((pk_un (by decide)).trans hk2)⟩ (fun f_104 ef_104 hq => ?_)
                  obtain ⟨hP, hD, hI, hE, hZ, hk0, hk1, hk2⟩ := hq
                  refine lv_aload_n hx hb dX12_reads_103 rfl (lv_at hl 1 rfl) ?_
                  refine kI.callV (As := []) (rest := []) ⟨hx, hb, hml, hown, hg⟩ (m_fine l o r f_104 a6 g7 hI   ) (cwV 0 hg (kgV wt6_204 wt6_206 wp4_7 wt1_14 wt6_207) rfl rfl rfl (by decide +kernel) ⟨by decide, by decide⟩) hK hP hD hS hA mIs [] rfl (wr := []) rfl rfl rfl (fun i h => by cases h) 0 12 rfl rfl rfl hl.1 rfl (Nat.le_of_ble_eq_true rfl) dX12_reads_104 ⟨Nat.le_refl _, Nat.le_refl _⟩ (fun v106 u107 H locs hw105 hP hD hS => ?_)
                  have hP : va_P D vwCl (mW K o r f_104 a6 g7) H := hP
                  have hD : va_D A (mW K o r f_104 a6 g7) := hD
                  refine k_top (z := 0) ((hw105.2).elim (fun q => absurd q.2 (fun q => hnz103 ((((show f_104 21 = u101 21 from by rw [← ef_104]; rfl).trans ez103.symm)).symm.trans q))) (fun q => q.1)) ?_
                  exact kI_ret (v := 0) hx hb hr hlocks (by decide +kernel) hK hS dX12_reads_107 (f_104, a6, g7) hP hD ⟨(kb_w kc_0 (by decide) (by decide)), hI, hE, hk2, ⟨N, false, (hk1).1, hN2, (show txR ob (a 11) (f 13).toInt.toNat false (f_104 14) from (by rw [← hSd]; exact ⟨N, i3, hsp.1, fun i hi => (hsp.2.1 i hi).1, (by rw [← hTd]; exact xc _ (Or.inr (Or.inl ⟨hTk40, hel, rfl⟩))), (((show f_104 14 = z103 from by rw [← ef_104]; rfl)).trans (haz103.trans (spR_p hsp hvlp25_1)))⟩)), rfl, fun q => absurd q (by decide)⟩, h11, hk0, (fun M hM => by have w1 : (f_104 18).toInt = (M : Int) := hM; have w2 := hk1.1; rw [← hSd, show M = N by omega]; exact ⟨by rw [← hTd]; exact hp3, hsp.1, fun i hi => (hsp.2.1 i hi).1⟩), hZ⟩
            · exact kb_nsame c83 kc_0 kc_0
        · obtain ⟨z108, ez108⟩ : ∃ z : Int32, z = F24 21 := ⟨_, rfl⟩
          have haz108 : z108 = a6 17 (i3) := by rw [ez108]; exact hbd.1
          have hnz108 : ¬ z108 = -1 := by rw [ez108]; exact hbd.2
          refine lv_aload_n hx hb dX12_reads_34 rfl (lv_at hl 1 rfl) ?_
          refine lv_bipush (v := 59) hx hb dX12_reads_35 (by decide) ?_
          refine kN.callS (As := [.int 59]) (rest := [.ref o]) ⟨hx, hb, hml, hown, hg⟩ (m_sign l 59 (kb_w kc_59 (by decide) (by decide))) (va_cwS 1 hg (kgS wt6_220 wt6_221 wt1_14 wt6_222) rfl rfl rfl (by decide +kernel) ⟨by decide, by decide⟩) hP hS rfl hl.1 rfl (Nat.le_of_ble_eq_true rfl) dX12_reads_37 ⟨Nat.le_refl _, Nat.le_refl _⟩ (fun v110 H locs hw109 hP hS => ?_)
          refine k_top (z := 159) (Int32.toInt_inj.mp (hw109.2.trans (by decide +kernel))) ?_
          refine kI.callV (As := [.int 159]) (rest := []) ⟨hx, hb, hml, hown, hg⟩ (q_takes0 l o r F24 a6 g7 hI 159 (kb_w kc_159 (by decide) (by decide)) N (i3) ob T hk1 (by rw [egv28.symm]; exact hg29) hvlp25_1 hp3 (by decide +kernel)) (cwV 1 hg (kgV wt6_200 wt6_202 wp4_6 wt1_14 wt6_203) rfl rfl rfl (by decide +kernel) ⟨by decide, by decide⟩) hK hP hD hS hA mIs [] rfl (wr := []) rfl rfl rfl (fun i h => by cases h) 0 12 rfl rfl rfl hl.1 rfl (Nat.le_of_ble_eq_true rfl) dX12_reads_40 ⟨Nat.le_refl _, Nat.le_refl _⟩ (fun v113 u114 H locs hw112 hP hD hS => ?_)
          have hP : va_P D vwCl (mW K o r u114 a6 g7) H := hP
          have hD : va_D A (mW K o r u114 a6 g7) := hD
          have hI : mI u114 a6 := hw112.2.1
          have eE115 : fE [19] F24 u114 := hw112.2.2.1
          have hE : mF (XR []) f a u114 a6 := mF_fE hE eE115 (by decide)
          have hZ : mZ [13, 14, 18, 19, 20, 21] [15, 16, 17] f a u114 a6 := mZ_fE hZ (fE_w (by decide) eE115)
          have hk0 : fE [13, 14, 18, 19, 20, 21] f u114 := fE_tr hk0 (fE_w (by decide) eE115)
          have hk1 : rS u114 a6 N ob := rS_fE eE115 hk1 (by decide)
          have hk2 : u114 13 = 0 := (eE115 13 (by decide)).trans hk2
          obtain ⟨hvk116, hnk116, hpk116⟩ := (hw112.2.2.2).elim (fun q => absurd q.2.1 (fun q => hnz108 ((ez108.symm).symm.trans q))) (fun q => q)
          refine k_top (z := 0) hvk116 ?_
          obtain ⟨gv117, egv117⟩ : ∃ z : Int32, z = u114 19 := ⟨_, rfl⟩
          have hg118 : gv117.toInt = ((i3 : Nat) : Int) := by rw [egv117]; exact hpk116
          have b119 : kb 0 gv117 400 := kb_tok hk1 hvlp25_1 hg118
          refine lv_if_eq (tgt := 73) hx hb dX12_reads_43 (by decide) (fun c120 => ?_) (fun c120 => ?_)
          · refine lv_aload_n hx hb dX12_reads_73 rfl (lv_at hl 1 rfl) ?_
            refine kI.callV (As := []) (rest := []) ⟨hx, hb, hml, hown, hg⟩ (m_fine l o r u114 a6 g7 hI   ) (cwV 0 hg (kgV wt6_204 wt6_206 wp4_7 wt1_14 wt6_207) rfl rfl rfl (by decide +kernel) ⟨by decide, by decide⟩) hK hP hD hS hA mIs [] rfl (wr := []) rfl rfl rfl (fun i h => by cases h) 0 12 rfl rfl rfl hl.1 rfl (Nat.le_of_ble_eq_true rfl) dX12_reads_74 ⟨Nat.le_refl _, Nat.le_refl _⟩ (fun v122 u123 H locs hw121 hP hD hS => ?_)
            have hP : va_P D vwCl (mW K o r u114 a6 g7) H := hP
            have hD : va_D A (mW K o r u114 a6 g7) := hD
            refine k_top (z := 0) ((hw121.2).elim (fun q => absurd q.2 (fun q => hnz108 ((((eE115 21 (by decide)).trans ez108.symm)).symm.trans q))) (fun q => q.1)) ?_
            refine lv_if_eq (tgt := 95) hx hb dX12_reads_77 (by decide) (fun c124 => ?_) (fun c124 => ?_)
            · refine lv_aload_n hx hb dX12_reads_95 rfl (lv_at hl 1 rfl) ?_
              refine lv_aload_n hx hb dX12_reads_96 rfl (lv_at hl 1 rfl) ?_
              refine va_get (D := D) (ci := 12) (v := .int (u114 21)) (C := RX12) (T := TX12) (N := 48) hx hb hg inC12 hown hK hP 0 rfl rfl 21 (by decide) (hg _ wt5_181) (fun _ h9 => h9) rfl dX12_reads_97 ?_
              refine k_top (z := z108) ((eE115 21 (by decide)).trans ez108.symm) ?_
              refine va_put (D := D) (ci := 12) (v := .int z108) (ty := .int) (C := RX12) (T := TX12) (N := 48) hx hb hg inC12 tyX12 tyX12_ok nmX12 hown hK hP hD hS 0 rfl rfl 14 (by decide) (hg _ wt5_174) (fun _ h9 => h9) rfl (by decide +kernel) rfl rfl (Nat.le_of_ble_eq_true rfl) dX12_reads_100 (fun H locs hP hD hS => ?_)
              have hP : va_P D vwCl (mW K o r (upd u114 14 z108) a6 g7) H := hP
              have hD : va_D A (mW K o r (upd u114 14 z108) a6 g7) := hD
              refine k_gen (P := fun z => va_P D vwCl (mW K o r z a6 g7) H ∧ va_D A (mW K o r z a6 g7) ∧ (mI z a6) ∧ (mF (XR []) f a z a6) ∧ (mZ [13, 14, 18, 19, 20, 21] [15, 16, 17] f a z a6) ∧ (fE [13, 14, 18, 19, 20, 21] f z) ∧ (rS z a6 N ob) ∧ (z 13 = 0)) (upd u114 14 z108) ⟨hP, hD, (mI_f hI (fI_st hI.1 14 (kb_any _) (by decide) (by decide))), (mF_f hE), (mZ_f hZ rfl), (fE_f hk0 (by decide)), (rS_f hk1 (by decide) (by decide) (by decide) (by decide)), ((pk_un (by decide)).trans hk2)⟩ (fun f_125 ef_125 hq => ?_)
              obtain ⟨hP, hD, hI, hE, hZ, hk0, hk1, hk2⟩ := hq
              refine lv_aload_n hx hb dX12_reads_103 rfl (lv_at hl 1 rfl) ?_
              refine kI.callV (As := []) (rest := []) ⟨hx, hb, hml, hown, hg⟩ (m_fine l o r f_125 a6 g7 hI   ) (cwV 0 hg (kgV wt6_204 wt6_206 wp4_7 wt1_14 wt6_207) rfl rfl rfl (by decide +kernel) ⟨by decide, by decide⟩) hK hP hD hS hA mIs [] rfl (wr := []) rfl rfl rfl (fun i h => by cases h) 0 12 rfl rfl rfl hl.1 rfl (Nat.le_of_ble_eq_true rfl) dX12_reads_104 ⟨Nat.le_refl _, Nat.le_refl _⟩ (fun v127 u128 H locs hw126 hP hD hS => ?_)
              have hP : va_P D vwCl (mW K o r f_125 a6 g7) H := hP
              have hD : va_D A (mW K o r f_125 a6 g7) := hD
              refine k_top (z := 0) ((hw126.2).elim (fun q => absurd q.2 (fun q => hnz108 ((((show f_125 21 = u114 21 from by rw [← ef_125]; rfl).trans ((eE115 21 (by decide)).trans ez108.symm))).symm.trans q))) (fun q => q.1)) ?_
              exact kI_ret (v := 0) hx hb hr hlocks (by decide +kernel) hK hS dX12_reads_107 (f_125, a6, g7) hP hD ⟨(kb_w kc_0 (by decide) (by decide)), hI, hE, hk2, ⟨N, false, (hk1).1, hN2, (show txR ob (a 11) (f 13).toInt.toNat false (f_125 14) from (by rw [← hSd]; exact ⟨N, i3, hsp.1, fun i hi => (hsp.2.1 i hi).1, (by rw [← hTd]; exact xb), (((show f_125 14 = z108 from by rw [← ef_125]; rfl)).trans (haz108.trans (spR_p hsp hvlp25_1)))⟩)), rfl, fun q => absurd q (by decide)⟩, h11, hk0, (fun M hM => by have w1 : (f_125 18).toInt = (M : Int) := hM; have w2 := hk1.1; rw [← hSd, show M = N by omega]; exact ⟨by rw [← hTd]; exact hp3, hsp.1, fun i hi => (hsp.2.1 i hi).1⟩), hZ⟩
            · exact kb_nsame c124 kc_0 kc_0
          · exact kb_nsame c120 kc_0 kc_0
    exact lp25 (N + 1) (ik18) (nk18) 1 u16 _ _ _ 1 (by omega) hI hE hZ hk0 hk1 hk2 (kb_w kc_1 (by decide) (by decide)) (by rw [egv19.symm]; exact hg20) (hNk18) (Or.inl ⟨h2k18, ⟨(by rw [ez22.symm]; exact hzz22), h3k18.2⟩, ⟨by decide +kernel, by decide, by decide⟩, fun r h => pT_s (q := 11) hGk18 h⟩) hP hD hS (lv_sub hl [0, 1] rfl)
  · obtain ⟨gv129, egv129⟩ : ∃ z : Int32, z = u16 19 := ⟨_, rfl⟩
    have hg130 : gv129.toInt = ((ik18 : Nat) : Int) := by rw [egv129]; exact hgk18
    have b131 : kb 0 gv129 400 := kb_tok hk1 hNk18 hg130
    obtain ⟨z132, ez132⟩ : ∃ z : Int32, z = u16 21 := ⟨_, rfl⟩
    have haz132 : z132 = a6 17 (ik18) := by rw [ez132]; exact hbk18.1
    have hnz132 : ¬ z132 = -1 := by rw [ez132]; exact hbk18.2
    refine lv_iconst (v := 1) hx hb dX12_reads_32 (by decide) ?_
    refine lv_istore_n (lv' := [(1, .int 1), (0, .ref o)]) hx hb dX12_reads_33 rfl hl (by decide) rfl (fun ls hl => ?_)
    have lp135 : ∀ (n136 : Nat) (i3 : Nat) (n3 : Nat) (cn : Nat) (F134 : Nat → Int32) (H : Heap) (locs : List Loc) (ls : Array Slot) (y133 : Int32), ((N : Int) < (i3 : Int) + (n136 : Int)) → (mI F134 a6) → (mF (XR []) f a F134 a6) → (mZ [13, 14, 18, 19, 20, 21] [15, 16, 17] f a F134 a6) → (fE [13, 14, 18, 19, 20, 21] f F134) → (rS F134 a6 N ob) → (F134 13 = 0) → (kb 1 y133 13) → ((F134 19).toInt = (i3 : Int)) → (i3 ≤ N) → (F134 21 = z132 ∧ i3 = ik18) → va_P D vwCl (mW K o r F134 a6 g7) H → va_D A (mW K o r F134 a6 g7) → va_S A s.heap H locs → lv_has ls 2 [(1, .int y133), (0, .ref o)] → W p l e (rmD 50 0 0) s m ([.ref o] : List Value).toArray below meth c H locs 0 0 (kQi D (tysK K) (fun v (u : mS) => kb 0 v 1 ∧ mI u.1 u.2.1 ∧ mF (XR []) f a u.1 u.2.1 ∧ u.1 13 = 0 ∧ (∃ (N : Nat) (b : Bool), (u.1 18).toInt = (N : Int) ∧ N ≤ 400 ∧ txR ob (a 11) (f 13).toInt.toNat b (u.1 14) ∧ v = (if b = true then 1 else 0) ∧ (b = true → gG ob (rC (u.2.1 15) N) 8 15 0 N)) ∧ u.2.1 11 = a 11 ∧ fE [13, 14, 18, 19, 20, 21] f u.1 ∧ (∀ N : Nat, (u.1 18).toInt = (N : Int) → rqP u.2.1 (a 11) (f 13).toInt.toNat N) ∧ mZ [13, 14, 18, 19, 20, 21] [15, 16, 17] f a u.1 u.2.1) (fun u => mW K o r u.1 u.2.1 u.2.2) A below ([.ref o] : List Value).toArray s 0 0) (F0 m 34 ls []) := by
      intro n136
      induction n136 with
      | zero =>
        intro i3 n3 cn F134  H locs ls y133 hmlp135 hI hE hZ hk0 hk1 hk2 b137 hvlp135_0 hvlp135_1 hvlp135_2 hP hD hS hl
        exact (by have w1 := hmlp135; have w2 := hvlp135_1; omega : False).elim
      | succ n136 ihlp135 =>
        intro i3 n3 cn F134  H locs ls y133 hmlp135 hI hE hZ hk0 hk1 hk2 b137 hvlp135_0 hvlp135_1 hvlp135_2 hP hD hS hl
        obtain ⟨gv138, egv138⟩ : ∃ z : Int32, z = F134 19 := ⟨_, rfl⟩
        have hg139 : gv138.toInt = ((i3 : Nat) : Int) := by rw [egv138]; exact hvlp135_0
        have b140 : kb 0 gv138 400 := kb_tok hk1 hvlp135_1 hg139
        refine lv_aload_n hx hb dX12_reads_34 rfl (lv_at hl 1 rfl) ?_
        refine lv_bipush (v := 59) hx hb dX12_reads_35 (by decide) ?_
        refine kN.callS (As := [.int 59]) (rest := [.ref o]) ⟨hx, hb, hml, hown, hg⟩ (m_sign l 59 (kb_w kc_59 (by decide) (by decide))) (va_cwS 1 hg (kgS wt6_220 wt6_221 wt1_14 wt6_222) rfl rfl rfl (by decide +kernel) ⟨by decide, by decide⟩) hP hS rfl hl.1 rfl (Nat.le_of_ble_eq_true rfl) dX12_reads_37 ⟨Nat.le_refl _, Nat.le_refl _⟩ (fun v142 H locs hw141 hP hS => ?_)
        refine k_top (z := 159) (Int32.toInt_inj.mp (hw141.2.trans (by decide +kernel))) ?_
        refine kI.callV (As := [.int 159]) (rest := []) ⟨hx, hb, hml, hown, hg⟩ (q_takes0 l o r F134 a6 g7 hI 159 (kb_w kc_159 (by decide) (by decide)) N (i3) ob T hk1 (by rw [egv138.symm]; exact hg139) hvlp135_1 hp3 (by decide +kernel)) (cwV 1 hg (kgV wt6_200 wt6_202 wp4_6 wt1_14 wt6_203) rfl rfl rfl (by decide +kernel) ⟨by decide, by decide⟩) hK hP hD hS hA mIs [] rfl (wr := []) rfl rfl rfl (fun i h => by cases h) 0 12 rfl rfl rfl hl.1 rfl (Nat.le_of_ble_eq_true rfl) dX12_reads_40 ⟨Nat.le_refl _, Nat.le_refl _⟩ (fun v145 u146 H locs hw144 hP hD hS => ?_)
        have hP : va_P D vwCl (mW K o r u146 a6 g7) H := hP
        have hD : va_D A (mW K o r u146 a6 g7) := hD
        have hI : mI u146 a6 := hw144.2.1
        have eE147 : fE [19] F134 u146 := hw144.2.2.1
        have hE : mF (XR []) f a u146 a6 := mF_fE hE eE147 (by decide)
        have hZ : mZ [13, 14, 18, 19, 20, 21] [15, 16, 17] f a u146 a6 := mZ_fE hZ (fE_w (by decide) eE147)
        have hk0 : fE [13, 14, 18, 19, 20, 21] f u146 := fE_tr hk0 (fE_w (by decide) eE147)
        have hk1 : rS u146 a6 N ob := rS_fE eE147 hk1 (by decide)
        have hk2 : u146 13 = 0 := (eE147 13 (by decide)).trans hk2
        obtain ⟨hvk148, hnk148, hpk148⟩ := (hw144.2.2.2).elim (fun q => absurd q.2.1 (fun q => hnz132 ((hvlp135_2.1).symm.trans q))) (fun q => q)
        refine k_top (z := 0) hvk148 ?_
        obtain ⟨gv149, egv149⟩ : ∃ z : Int32, z = u146 19 := ⟨_, rfl⟩
        have hg150 : gv149.toInt = ((i3 : Nat) : Int) := by rw [egv149]; exact hpk148
        have b151 : kb 0 gv149 400 := kb_tok hk1 hvlp135_1 hg150
        refine lv_if_eq (tgt := 73) hx hb dX12_reads_43 (by decide) (fun c152 => ?_) (fun c152 => ?_)
        · refine lv_aload_n hx hb dX12_reads_73 rfl (lv_at hl 1 rfl) ?_
          refine kI.callV (As := []) (rest := []) ⟨hx, hb, hml, hown, hg⟩ (m_fine l o r u146 a6 g7 hI   ) (cwV 0 hg (kgV wt6_204 wt6_206 wp4_7 wt1_14 wt6_207) rfl rfl rfl (by decide +kernel) ⟨by decide, by decide⟩) hK hP hD hS hA mIs [] rfl (wr := []) rfl rfl rfl (fun i h => by cases h) 0 12 rfl rfl rfl hl.1 rfl (Nat.le_of_ble_eq_true rfl) dX12_reads_74 ⟨Nat.le_refl _, Nat.le_refl _⟩ (fun v154 u155 H locs hw153 hP hD hS => ?_)
          have hP : va_P D vwCl (mW K o r u146 a6 g7) H := hP
          have hD : va_D A (mW K o r u146 a6 g7) := hD
          refine k_top (z := 0) ((hw153.2).elim (fun q => absurd q.2 (fun q => hnz132 ((((eE147 21 (by decide)).trans hvlp135_2.1)).symm.trans q))) (fun q => q.1)) ?_
          refine lv_if_eq (tgt := 95) hx hb dX12_reads_77 (by decide) (fun c156 => ?_) (fun c156 => ?_)
          · refine lv_aload_n hx hb dX12_reads_95 rfl (lv_at hl 1 rfl) ?_
            refine lv_aload_n hx hb dX12_reads_96 rfl (lv_at hl 1 rfl) ?_
            refine va_get (D := D) (ci := 12) (v := .int (u146 21)) (C := RX12) (T := TX12) (N := 48) hx hb hg inC12 hown hK hP 0 rfl rfl 21 (by decide) (hg _ wt5_181) (fun _ h9 => h9) rfl dX12_reads_97 ?_
            refine k_top (z := z132) ((eE147 21 (by decide)).trans hvlp135_2.1) ?_
            refine va_put (D := D) (ci := 12) (v := .int z132) (ty := .int) (C := RX12) (T := TX12) (N := 48) hx hb hg inC12 tyX12 tyX12_ok nmX12 hown hK hP hD hS 0 rfl rfl 14 (by decide) (hg _ wt5_174) (fun _ h9 => h9) rfl (by decide +kernel) rfl rfl (Nat.le_of_ble_eq_true rfl) dX12_reads_100 (fun H locs hP hD hS => ?_)
            have hP : va_P D vwCl (mW K o r (upd u146 14 z132) a6 g7) H := hP
            have hD : va_D A (mW K o r (upd u146 14 z132) a6 g7) := hD
            refine k_gen (P := fun z => va_P D vwCl (mW K o r z a6 g7) H ∧ va_D A (mW K o r z a6 g7) ∧ (mI z a6) ∧ (mF (XR []) f a z a6) ∧ (mZ [13, 14, 18, 19, 20, 21] [15, 16, 17] f a z a6) ∧ (fE [13, 14, 18, 19, 20, 21] f z) ∧ (rS z a6 N ob) ∧ (z 13 = 0)) (upd u146 14 z132) ⟨hP, hD, (mI_f hI (fI_st hI.1 14 (kb_any _) (by decide) (by decide))), (mF_f hE), (mZ_f hZ rfl), (fE_f hk0 (by decide)), (rS_f hk1 (by decide) (by decide) (by decide) (by decide)), ((pk_un (by decide)).trans hk2)⟩ (fun f_157 ef_157 hq => ?_)
            obtain ⟨hP, hD, hI, hE, hZ, hk0, hk1, hk2⟩ := hq
            refine lv_aload_n hx hb dX12_reads_103 rfl (lv_at hl 1 rfl) ?_
            refine kI.callV (As := []) (rest := []) ⟨hx, hb, hml, hown, hg⟩ (m_fine l o r f_157 a6 g7 hI   ) (cwV 0 hg (kgV wt6_204 wt6_206 wp4_7 wt1_14 wt6_207) rfl rfl rfl (by decide +kernel) ⟨by decide, by decide⟩) hK hP hD hS hA mIs [] rfl (wr := []) rfl rfl rfl (fun i h => by cases h) 0 12 rfl rfl rfl hl.1 rfl (Nat.le_of_ble_eq_true rfl) dX12_reads_104 ⟨Nat.le_refl _, Nat.le_refl _⟩ (fun v159 u160 H locs hw158 hP hD hS => ?_)
            have hP : va_P D vwCl (mW K o r f_157 a6 g7) H := hP
            have hD : va_D A (mW K o r f_157 a6 g7) := hD
            refine k_top (z := 0) ((hw158.2).elim (fun q => absurd q.2 (fun q => hnz132 ((((show f_157 21 = u146 21 from by rw [← ef_157]; rfl).trans ((eE147 21 (by decide)).trans hvlp135_2.1))).symm.trans q))) (fun q => q.1)) ?_
            exact kI_ret (v := 0) hx hb hr hlocks (by decide +kernel) hK hS dX12_reads_107 (f_157, a6, g7) hP hD ⟨(kb_w kc_0 (by decide) (by decide)), hI, hE, hk2, ⟨N, false, (hk1).1, hN2, (show txR ob (a 11) (f 13).toInt.toNat false (f_157 14) from (by rw [← hSd]; exact ⟨N, i3, hsp.1, fun i hi => (hsp.2.1 i hi).1, (by rw [← hTd]; exact (by rw [hvlp135_2.2]; exact pT_f (q := 11) hGk18)), (((show f_157 14 = z132 from by rw [← ef_157]; rfl)).trans ((show z132 = a6 17 i3 from by rw [hvlp135_2.2]; exact haz132).trans (spR_p hsp hvlp135_1)))⟩)), rfl, fun q => absurd q (by decide)⟩, h11, hk0, (fun M hM => by have w1 : (f_157 18).toInt = (M : Int) := hM; have w2 := hk1.1; rw [← hSd, show M = N by omega]; exact ⟨by rw [← hTd]; exact hp3, hsp.1, fun i hi => (hsp.2.1 i hi).1⟩), hZ⟩
          · exact kb_nsame c156 kc_0 kc_0
        · exact kb_nsame c152 kc_0 kc_0
    exact lp135 (N + 1) (ik18) (0) 1 u16 _ _ _ 1 (by omega) hI hE hZ hk0 hk1 hk2 (kb_w kc_1 (by decide) (by decide)) (by rw [egv129.symm]; exact hg130) (hNk18) (⟨ez132.symm, rfl⟩) hP hD hS (lv_sub hl [0, 1] rfl)
  · exact absurd (show f_13 21 = (-1) from by rw [← ef_13]; rfl) hdk18.1
