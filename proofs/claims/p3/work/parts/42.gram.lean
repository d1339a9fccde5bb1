theorem gF_mono {o : Bool} {c : Nat → Int32} {R R' : Nat → Nat → Nat → Nat → Prop} (h : ∀ d k i j, R d k i j → R' d k i j) : ∀ d k i j, gF o c R d k i j → gF o c R' d k i j := by
  intro d k i j q
  unfold gF at *
  split at q
  · exact q.elim fun m q => ⟨m, h _ _ _ _ q.1, h _ _ _ _ q.2⟩
  · exact q.imp id fun q => ⟨q.1, q.2.elim fun m q => ⟨m, h _ _ _ _ q.1, h _ _ _ _ q.2⟩⟩
  · exact q.elim fun m q => ⟨m, h _ _ _ _ q.1, h _ _ _ _ q.2⟩
  · exact q.imp id fun q => ⟨q.1, q.2.elim fun m q => ⟨m, h _ _ _ _ q.1, h _ _ _ _ q.2⟩⟩
  · refine q.imp (fun q => ⟨q.1, ?_⟩) id
    obtain ⟨e, m, q1, q2, q3⟩ := q.2
    exact ⟨e, m, q1, h _ _ _ _ q2, q3⟩
  · exact q.elim fun m q => ⟨m, h _ _ _ _ q.1, h _ _ _ _ q.2⟩
  · exact q.imp id fun q => ⟨q.1, q.2.elim fun m q => ⟨m, h _ _ _ _ q.1, h _ _ _ _ q.2⟩⟩
  · exact q.elim fun m q => ⟨m, h _ _ _ _ q.1, h _ _ _ _ q.2⟩
  · exact q.imp id fun q => ⟨q.1, q.2.elim fun m q => ⟨m, h _ _ _ _ q.1, h _ _ _ _ q.2⟩⟩
  · exact q.imp (fun q => ⟨q.1, h _ _ _ _ q.2⟩) (fun q => ⟨q.1, h _ _ _ _ q.2⟩)
  · refine q.imp (fun q => ⟨q.1, ?_⟩) (fun q => ⟨q.1, q.2.elim fun m q => ⟨m, h _ _ _ _ q.1, q.2.1, h _ _ _ _ q.2.2⟩⟩)
    obtain ⟨e, m, q1, q2, q3⟩ := q.2
    exact ⟨e, m, q1, h _ _ _ _ q2, q3⟩
  · exact q.imp (fun q => ⟨q.1, q.2.elim fun m q => ⟨m, h _ _ _ _ q.1, h _ _ _ _ q.2⟩⟩) (fun q => ⟨q.1, h _ _ _ _ q.2⟩)
  · exact q.imp (fun q => ⟨q.1, h _ _ _ _ q.2⟩) id
  · refine q.imp (fun q => ⟨q.1, ?_⟩) (fun q => q.imp (fun q => ⟨q.1, q.2.elim fun m q => ⟨m, h _ _ _ _ q.1, h _ _ _ _ q.2⟩⟩) (fun q => ⟨q.1, h _ _ _ _ q.2⟩))
    obtain ⟨m, m', q1, q2, q3, q4⟩ := q.2
    exact ⟨m, m', h _ _ _ _ q1, q2, h _ _ _ _ q3, h _ _ _ _ q4⟩
  · exact q.imp (fun q => ⟨q.1, q.2.1, h _ _ _ _ q.2.2⟩) (fun q => ⟨q.1, h _ _ _ _ q.2⟩)
  · exact q.elim fun m q => ⟨m, h _ _ _ _ q.1, h _ _ _ _ q.2⟩
  · exact q.imp (fun q => ⟨q.1, h _ _ _ _ q.2⟩) id
  · exact q
theorem gg_s {o : Bool} {c : Nat → Int32} : ∀ n d k i j, gg o c n d k i j → gg o c (n + 1) d k i j := by
  intro n
  induction n with
  | zero => intro d k i j h; exact h.elim
  | succ n ih => exact gF_mono ih
theorem gg_le {o : Bool} {c : Nat → Int32} {n n' d k i j : Nat} (h : n ≤ n') (q : gg o c n d k i j) : gg o c n' d k i j := by
  induction h with
  | refl => exact q
  | step _ ih => exact gg_s _ _ _ _ _ ih
/-- a piece out of pieces -/
theorem gG_in {o : Bool} {c : Nat → Int32} {d k i j : Nat} {L : List (Nat × Nat × Nat × Nat)} (hL : ∀ q ∈ L, gG o c q.1 q.2.1 q.2.2.1 q.2.2.2) (h : gF o c (fun d k i j => (d, k, i, j) ∈ L) d k i j) : gG o c d k i j := by
  have : ∃ n, ∀ q ∈ L, gg o c n q.1 q.2.1 q.2.2.1 q.2.2.2 := by
    clear h
    induction L with
    | nil => exact ⟨0, fun q h => by cases h⟩
    | cons x L ih =>
      obtain ⟨n, hn⟩ := ih (fun q h => hL q (List.mem_cons_of_mem _ h))
      obtain ⟨m, hm⟩ := hL x List.mem_cons_self
      refine ⟨max n m, fun q h => ?_⟩
      rcases List.mem_cons.mp h with e | e
      · rw [e]; exact gg_le (Nat.le_max_right n m) hm
      · exact gg_le (Nat.le_max_left n m) (hn q e)
  obtain ⟨n, hn⟩ := this
  exact ⟨n + 1, gF_mono (fun d k i j q => hn _ q) _ _ _ _ h⟩
theorem gG_out {o : Bool} {c : Nat → Int32} {d k i j : Nat} (h : gG o c d k i j) : gF o c (gG o c) d k i j := by
  obtain ⟨n, h⟩ := h
  cases n with
  | zero => exact h.elim
  | succ n => exact gF_mono (fun d k i j q => ⟨n, q⟩) _ _ _ _ h
theorem gg_out {o : Bool} {c : Nat → Int32} {n d k i j : Nat} (h : gg o c (n + 1) d k i j) : gF o c (gg o c n) d k i j := h
theorem gG_of {o : Bool} {c : Nat → Int32} {n d k i j : Nat} (h : gg o c n d k i j) : gG o c d k i j := ⟨n, h⟩