/-! the parser as a function of steps; T the tokens as the class numbers them -/
abbrev pR := Option (Bool × Nat × Nat)
def pBn (r : pR) (k : Nat → Nat → pR) : pR :=
  match r with
  | some (true, j, n) => k j n
  | some (false, j, n) => some (false, j, n)
  | none => none
def pInr (t : Int32) (lo hi : Int) : Bool := decide (lo ≤ t.toInt ∧ t.toInt ≤ hi)
/-- words behind which a NUMBER stands -/
def pNm (o : Bool) (t : Int32) : Bool := o && (decide (t = 2014) || decide (t = 2010) || decide (t = 2027))
/-- NUMBERS and words -/
def pLf (o : Bool) (t : Int32) : Bool := pInr t 0 1000 || (if o = true then (decide (t = 2014) || decide (t = 2010) || decide (t = 2027) || decide (t = 2016) || decide (t = 2024) || decide (t = 2025) || decide (t = 2026)) else pInr t 2008 2017)
def pF (o : Bool) (T : Nat → Int32) (P : Nat → Nat → Nat → Nat → pR) (d k i n : Nat) : pR :=
  match k with
  | 0 => pBn (P d 1 i n) fun j m => P d 6 j m
  | 6 => if T i = 3043 ∨ T i = 3045 then P d 0 (i + 1) n else some (true, i, n)
  | 1 => pBn (P d 2 i n) fun j m => P d 7 j m
  | 7 => if T i = 3042 ∨ T i = 3047 ∨ T i = 3037 then P d 1 (i + 1) n else some (true, i, n)
  | 2 => if T i = 3091 then (if d = 0 then some (false, i, 0) else pBn (P (d - 1) 0 (i + 1) n) fun j m => if T j = 3093 then some (true, j + 1, m) else some (false, j, 0))
      else if pLf o (T i) = false then some (false, i, 0) else if n = 50 then some (false, i, 0)
      else if pNm o (T i) = true then (if pInr (T (i + 1)) 0 (if T i = 2014 then 9 else 5) = true then some (true, i + 2, n + 1) else some (false, i + 1, 0))
      else some (true, i + 1, n + 1)
  | 3 => pBn (P d 4 i n) fun j m => P d 8 j m
  | 8 => if T i = 2000 then P d 3 (i + 1) n else some (true, i, n)
  | 4 => pBn (P d 5 i n) fun j m => P d 9 j m
  | 9 => if T i = 2001 then P d 4 (i + 1) n else some (true, i, n)
  | 5 => if T i = 2002 then P d 5 (i + 1) n else P d 10 i n
  | 10 => if T i = 3040 then (if d = 0 then some (false, i, 0) else pBn (P (d - 1) 3 (i + 1) n) fun j m => if T j = 3041 then some (true, j + 1, m) else some (false, j, 0))
      else pBn (P d 0 i n) fun j m => if T j = 3060 ∨ T j = 3062 ∨ T j = 3061 then P d 0 (j + 1) m else some (false, j, 0)
  | 12 => if T i = 2003 then P d 3 (i + 1) n else some (true, i, n)
  | 11 => if T i = 2004 ∨ T i = 2005 ∨ T i = 2006 then pBn (P d 0 (i + 1) n) fun j m => P d 12 j m else if T i = 2007 then P d 12 (i + 1) n else some (false, i, 0)
  | 14 => if T i = 2023 then (if pInr (T (i + 1)) 1 20 = true then P d 12 (i + 2) n else some (false, i + 1, 0)) else P d 12 i n
  | 13 => if T i = 2018 then pBn (P d 0 (i + 1) n) fun j m => if T j = 2022 then P d 17 (j + 1) m else some (false, j, 0)
      else if T i = 2019 ∨ T i = 2020 then P d 17 (i + 1) n else if T i = 2021 then P d 14 (i + 1) n else some (false, i, 0)
  | 17 => pBn (P d 0 i n) fun j m => P d 14 j m
  | _ => none
theorem pF_0 {o : Bool} {T : Nat → Int32} {P : Nat → Nat → Nat → Nat → pR} {d i n : Nat} : pF o T P d 0 i n = (pBn (P d 1 i n) fun j m => P d 6 j m) := rfl
theorem pF_6 {o : Bool} {T : Nat → Int32} {P : Nat → Nat → Nat → Nat → pR} {d i n : Nat} : pF o T P d 6 i n = (if T i = 3043 ∨ T i = 3045 then P d 0 (i + 1) n else some (true, i, n)) := rfl
theorem pF_1 {o : Bool} {T : Nat → Int32} {P : Nat → Nat → Nat → Nat → pR} {d i n : Nat} : pF o T P d 1 i n = (pBn (P d 2 i n) fun j m => P d 7 j m) := rfl
theorem pF_7 {o : Bool} {T : Nat → Int32} {P : Nat → Nat → Nat → Nat → pR} {d i n : Nat} : pF o T P d 7 i n = (if T i = 3042 ∨ T i = 3047 ∨ T i = 3037 then P d 1 (i + 1) n else some (true, i, n)) := rfl
theorem pF_2 {o : Bool} {T : Nat → Int32} {P : Nat → Nat → Nat → Nat → pR} {d i n : Nat} : pF o T P d 2 i n = (if T i = 3091 then (if d = 0 then some (false, i, 0) else pBn (P (d - 1) 0 (i + 1) n) fun j m => if T j = 3093 then some (true, j + 1, m) else some (false, j, 0)) else if pLf o (T i) = false then some (false, i, 0) else if n = 50 then some (false, i, 0) else if pNm o (T i) = true then (if pInr (T (i + 1)) 0 (if T i = 2014 then 9 else 5) = true then some (true, i + 2, n + 1) else some (false, i + 1, 0)) else some (true, i + 1, n + 1)) := rfl
theorem pF_3 {o : Bool} {T : Nat → Int32} {P : Nat → Nat → Nat → Nat → pR} {d i n : Nat} : pF o T P d 3 i n = (pBn (P d 4 i n) fun j m => P d 8 j m) := rfl
theorem pF_8 {o : Bool} {T : Nat → Int32} {P : Nat → Nat → Nat → Nat → pR} {d i n : Nat} : pF o T P d 8 i n = (if T i = 2000 then P d 3 (i + 1) n else some (true, i, n)) := rfl
theorem pF_4 {o : Bool} {T : Nat → Int32} {P : Nat → Nat → Nat → Nat → pR} {d i n : Nat} : pF o T P d 4 i n = (pBn (P d 5 i n) fun j m => P d 9 j m) := rfl
theorem pF_9 {o : Bool} {T : Nat → Int32} {P : Nat → Nat → Nat → Nat → pR} {d i n : Nat} : pF o T P d 9 i n = (if T i = 2001 then P d 4 (i + 1) n else some (true, i, n)) := rfl
theorem pF_5 {o : Bool} {T : Nat → Int32} {P : Nat → Nat → Nat → Nat → pR} {d i n : Nat} : pF o T P d 5 i n = (if T i = 2002 then P d 5 (i + 1) n else P d 10 i n) := rfl
theorem pF_10 {o : Bool} {T : Nat → Int32} {P : Nat → Nat → Nat → Nat → pR} {d i n : Nat} : pF o T P d 10 i n = (if T i = 3040 then (if d = 0 then some (false, i, 0) else pBn (P (d - 1) 3 (i + 1) n) fun j m => if T j = 3041 then some (true, j + 1, m) else some (false, j, 0)) else pBn (P d 0 i n) fun j m => if T j = 3060 ∨ T j = 3062 ∨ T j = 3061 then P d 0 (j + 1) m else some (false, j, 0)) := rfl
theorem pF_12 {o : Bool} {T : Nat → Int32} {P : Nat → Nat → Nat → Nat → pR} {d i n : Nat} : pF o T P d 12 i n = (if T i = 2003 then P d 3 (i + 1) n else some (true, i, n)) := rfl
theorem pF_11 {o : Bool} {T : Nat → Int32} {P : Nat → Nat → Nat → Nat → pR} {d i n : Nat} : pF o T P d 11 i n = (if T i = 2004 ∨ T i = 2005 ∨ T i = 2006 then pBn (P d 0 (i + 1) n) fun j m => P d 12 j m else if T i = 2007 then P d 12 (i + 1) n else some (false, i, 0)) := rfl
theorem pF_14 {o : Bool} {T : Nat → Int32} {P : Nat → Nat → Nat → Nat → pR} {d i n : Nat} : pF o T P d 14 i n = (if T i = 2023 then (if pInr (T (i + 1)) 1 20 = true then P d 12 (i + 2) n else some (false, i + 1, 0)) else P d 12 i n) := rfl
theorem pF_13 {o : Bool} {T : Nat → Int32} {P : Nat → Nat → Nat → Nat → pR} {d i n : Nat} : pF o T P d 13 i n = (if T i = 2018 then pBn (P d 0 (i + 1) n) fun j m => if T j = 2022 then P d 17 (j + 1) m else some (false, j, 0) else if T i = 2019 ∨ T i = 2020 then P d 17 (i + 1) n else if T i = 2021 then P d 14 (i + 1) n else some (false, i, 0)) := rfl
theorem pF_17 {o : Bool} {T : Nat → Int32} {P : Nat → Nat → Nat → Nat → pR} {d i n : Nat} : pF o T P d 17 i n = (pBn (P d 0 i n) fun j m => P d 14 j m) := rfl
def pP (o : Bool) (T : Nat → Int32) : Nat → Nat → Nat → Nat → Nat → pR
  | 0 => fun _ _ _ _ => none
  | f + 1 => pF o T (pP o T f)
def pG (o : Bool) (T : Nat → Int32) (d k i n : Nat) (r : Bool × Nat × Nat) : Prop := ∃ f, pP o T f d k i n = some r
def pLe (x y : pR) : Prop := ∀ r, x = some r → y = some r
theorem pLe_rf {x : pR} : pLe x x := fun _ h => h
theorem pLe_B {x y : pR} {k k' : Nat → Nat → pR} (h : pLe x y) (q : ∀ j m, pLe (k j m) (k' j m)) : pLe (pBn x k) (pBn y k') := by
  intro r hr
  cases x with
  | none => have hr : (none : pR) = some r := hr; cases hr
  | some z =>
    obtain ⟨b, j, m⟩ := z
    rw [h _ rfl]
    cases b with
    | true => exact q j m r hr
    | false => exact hr
theorem pLe_i {p : Prop} {hp : Decidable p} {a b a' b' : pR} (h : pLe a a') (q : pLe b b') : pLe (if p then a else b) (if p then a' else b') := by
  by_cases hh : p
  · rw [if_pos hh, if_pos hh]; exact h
  · rw [if_neg hh, if_neg hh]; exact q
theorem pF_mono {o : Bool} {T : Nat → Int32} {P P' : Nat → Nat → Nat → Nat → pR} (h : ∀ d k i n, pLe (P d k i n) (P' d k i n)) : ∀ d k i n, pLe (pF o T P d k i n) (pF o T P' d k i n) := by
  intro d k i n
  unfold pF
  split
  · exact pLe_B (h _ _ _ _) (fun j m => h _ _ _ _)
  · exact pLe_i (h _ _ _ _) pLe_rf
  · exact pLe_B (h _ _ _ _) (fun j m => h _ _ _ _)
  · exact pLe_i (h _ _ _ _) pLe_rf
  · exact pLe_i (pLe_i pLe_rf (pLe_B (h _ _ _ _) (fun j m => pLe_rf))) pLe_rf
  · exact pLe_B (h _ _ _ _) (fun j m => h _ _ _ _)
  · exact pLe_i (h _ _ _ _) pLe_rf
  · exact pLe_B (h _ _ _ _) (fun j m => h _ _ _ _)
  · exact pLe_i (h _ _ _ _) pLe_rf
  · exact pLe_i (h _ _ _ _) (h _ _ _ _)
  · exact pLe_i (pLe_i pLe_rf (pLe_B (h _ _ _ _) (fun j m => pLe_rf))) (pLe_B (h _ _ _ _) (fun j m => pLe_i (h _ _ _ _) pLe_rf))
  · exact pLe_i (h _ _ _ _) pLe_rf
  · exact pLe_i (pLe_B (h _ _ _ _) (fun j m => h _ _ _ _)) (pLe_i (h _ _ _ _) pLe_rf)
  · exact pLe_i (pLe_i (h _ _ _ _) pLe_rf) (h _ _ _ _)
  · exact pLe_i (pLe_B (h _ _ _ _) (fun j m => pLe_i (h _ _ _ _) pLe_rf)) (pLe_i (h _ _ _ _) (pLe_i (h _ _ _ _) pLe_rf))
  · exact pLe_B (h _ _ _ _) (fun j m => h _ _ _ _)
  · first | exact pLe_rf | (intro r hr; cases hr)
theorem pP_s {o : Bool} {T : Nat → Int32} : ∀ f d k i n, pLe (pP o T f d k i n) (pP o T (f + 1) d k i n) := by
  intro f
  induction f with
  | zero => intro d k i n r h; have h : (none : pR) = some r := h; cases h
  | succ f ih => exact pF_mono ih
theorem pP_le {o : Bool} {T : Nat → Int32} {f f' d k i n : Nat} {r : Bool × Nat × Nat} (h : f ≤ f') (q : pP o T f d k i n = some r) : pP o T f' d k i n = some r := by
  induction h with
  | refl => exact q
  | step _ ih => exact pP_s _ _ _ _ _ _ ih
theorem pG_det {o : Bool} {T : Nat → Int32} {d k i n : Nat} {r s : Bool × Nat × Nat} (h : pG o T d k i n r) (q : pG o T d k i n s) : r = s := by
  obtain ⟨f, h⟩ := h
  obtain ⟨g, q⟩ := q
  have h2 := pP_le (Nat.le_max_left f g) h
  rw [pP_le (Nat.le_max_right f g) q] at h2
  exact (Option.some.inj h2).symm
section PI
variable {o : Bool} {T : Nat → Int32} {d d' k k' i i' n n' j m e : Nat} {r s : Bool × Nat × Nat}
theorem pG_2 (h : pG o T d k i n r) (q : pG o T d' k' i' n' s) : ∃ f, pP o T f d k i n = some r ∧ pP o T f d' k' i' n' = some s := by
  obtain ⟨f, h⟩ := h
  obtain ⟨g, q⟩ := q
  exact ⟨max f g, pP_le (Nat.le_max_left f g) h, pP_le (Nat.le_max_right f g) q⟩
theorem pG_1 (q : ∀ f, pP o T f d' k' i' n' = some s → pF o T (pP o T f) d k i n = some r) (h : pG o T d' k' i' n' s) : pG o T d k i n r := by
  obtain ⟨f, h⟩ := h
  exact ⟨f + 1, q f h⟩
theorem pG_0 (q : ∀ f, pF o T (pP o T f) d k i n = some r) : pG o T d k i n r := ⟨1, q 0⟩
theorem pi_0 (h : pG o T d 1 i n (true, j, m)) (q : pG o T d 6 j m r) : pG o T d 0 i n r := by
  obtain ⟨f, h, q⟩ := pG_2 h q
  exact ⟨f + 1, by show pF o T (pP o T f) d 0 i n = _; rw [pF_0]; show pBn (pP o T f d 1 i n) _ = _; rw [h]; exact q⟩
theorem pi_0f (h : pG o T d 1 i n (false, j, 0)) : pG o T d 0 i n (false, j, 0) := pG_1 (fun f h => by rw [pF_0]; show pBn (pP o T f d 1 i n) _ = _; rw [h]; rfl) h
theorem pi_1 (h : pG o T d 2 i n (true, j, m)) (q : pG o T d 7 j m r) : pG o T d 1 i n r := by
  obtain ⟨f, h, q⟩ := pG_2 h q
  exact ⟨f + 1, by show pF o T (pP o T f) d 1 i n = _; rw [pF_1]; show pBn (pP o T f d 2 i n) _ = _; rw [h]; exact q⟩
theorem pi_1f (h : pG o T d 2 i n (false, j, 0)) : pG o T d 1 i n (false, j, 0) := pG_1 (fun f h => by rw [pF_1]; show pBn (pP o T f d 2 i n) _ = _; rw [h]; rfl) h
theorem pi_3 (h : pG o T d 4 i n (true, j, m)) (q : pG o T d 8 j m r) : pG o T d 3 i n r := by
  obtain ⟨f, h, q⟩ := pG_2 h q
  exact ⟨f + 1, by show pF o T (pP o T f) d 3 i n = _; rw [pF_3]; show pBn (pP o T f d 4 i n) _ = _; rw [h]; exact q⟩
theorem pi_3f (h : pG o T d 4 i n (false, j, 0)) : pG o T d 3 i n (false, j, 0) := pG_1 (fun f h => by rw [pF_3]; show pBn (pP o T f d 4 i n) _ = _; rw [h]; rfl) h
theorem pi_4 (h : pG o T d 5 i n (true, j, m)) (q : pG o T d 9 j m r) : pG o T d 4 i n r := by
  obtain ⟨f, h, q⟩ := pG_2 h q
  exact ⟨f + 1, by show pF o T (pP o T f) d 4 i n = _; rw [pF_4]; show pBn (pP o T f d 5 i n) _ = _; rw [h]; exact q⟩
theorem pi_4f (h : pG o T d 5 i n (false, j, 0)) : pG o T d 4 i n (false, j, 0) := pG_1 (fun f h => by rw [pF_4]; show pBn (pP o T f d 5 i n) _ = _; rw [h]; rfl) h
theorem pi_17 (h : pG o T d 0 i n (true, j, m)) (q : pG o T d 14 j m r) : pG o T d 17 i n r := by
  obtain ⟨f, h, q⟩ := pG_2 h q
  exact ⟨f + 1, by show pF o T (pP o T f) d 17 i n = _; rw [pF_17]; show pBn (pP o T f d 0 i n) _ = _; rw [h]; exact q⟩
theorem pi_17f (h : pG o T d 0 i n (false, j, 0)) : pG o T d 17 i n (false, j, 0) := pG_1 (fun f h => by rw [pF_17]; show pBn (pP o T f d 0 i n) _ = _; rw [h]; rfl) h
theorem pi_6n (h : ¬ (T i = 3043 ∨ T i = 3045)) : pG o T d 6 i n (true, i, n) := pG_0 (fun f => pF_6.trans <| if_neg h)
theorem pi_6y (h : T i = 3043 ∨ T i = 3045) (q : pG o T d 0 (i + 1) n r) : pG o T d 6 i n r := pG_1 (fun f q => pF_6.trans <| (if_pos h).trans q) q
theorem pi_7n (h : ¬ (T i = 3042 ∨ T i = 3047 ∨ T i = 3037)) : pG o T d 7 i n (true, i, n) := pG_0 (fun f => pF_7.trans <| if_neg h)
theorem pi_7y (h : T i = 3042 ∨ T i = 3047 ∨ T i = 3037) (q : pG o T d 1 (i + 1) n r) : pG o T d 7 i n r := pG_1 (fun f q => pF_7.trans <| (if_pos h).trans q) q
theorem pi_8n (h : ¬ (T i = 2000)) : pG o T d 8 i n (true, i, n) := pG_0 (fun f => pF_8.trans <| if_neg h)
theorem pi_8y (h : T i = 2000) (q : pG o T d 3 (i + 1) n r) : pG o T d 8 i n r := pG_1 (fun f q => pF_8.trans <| (if_pos h).trans q) q
theorem pi_9n (h : ¬ (T i = 2001)) : pG o T d 9 i n (true, i, n) := pG_0 (fun f => pF_9.trans <| if_neg h)
theorem pi_9y (h : T i = 2001) (q : pG o T d 4 (i + 1) n r) : pG o T d 9 i n r := pG_1 (fun f q => pF_9.trans <| (if_pos h).trans q) q
theorem pi_12n (h : ¬ (T i = 2003)) : pG o T d 12 i n (true, i, n) := pG_0 (fun f => pF_12.trans <| if_neg h)
theorem pi_12y (h : T i = 2003) (q : pG o T d 3 (i + 1) n r) : pG o T d 12 i n r := pG_1 (fun f q => pF_12.trans <| (if_pos h).trans q) q
theorem pi_5y (h : T i = 2002) (q : pG o T d 5 (i + 1) n r) : pG o T d 5 i n r := pG_1 (fun f q => pF_5.trans <| (if_pos h).trans q) q
theorem pi_5n (h : ¬ T i = 2002) (q : pG o T d 10 i n r) : pG o T d 5 i n r := pG_1 (fun f q => pF_5.trans <| (if_neg h).trans q) q
theorem pi_2z (h : T i = 3091) (hd : d = 0) : pG o T d 2 i n (false, i, 0) := pG_0 (fun f => pF_2.trans <| (if_pos h).trans (if_pos hd))
theorem pi_2a (h : T i = 3091) (hd : d = e + 1) (q : pG o T e 0 (i + 1) n (true, j, m)) (h2 : T j = 3093) : pG o T d 2 i n (true, j + 1, m) := by
  subst hd
  refine pG_1 (fun f q => pF_2.trans <| (if_pos h).trans ((if_neg (Nat.succ_ne_zero e)).trans ?_)) q
  show pBn (pP o T f e 0 (i + 1) n) _ = _
  rw [q]; exact if_pos h2
theorem pi_2b (h : T i = 3091) (hd : d = e + 1) (q : pG o T e 0 (i + 1) n (true, j, m)) (h2 : ¬ T j = 3093) : pG o T d 2 i n (false, j, 0) := by
  subst hd
  refine pG_1 (fun f q => pF_2.trans <| (if_pos h).trans ((if_neg (Nat.succ_ne_zero e)).trans ?_)) q
  show pBn (pP o T f e 0 (i + 1) n) _ = _
  rw [q]; exact if_neg h2
theorem pi_2f (h : T i = 3091) (hd : d = e + 1) (q : pG o T e 0 (i + 1) n (false, j, 0)) : pG o T d 2 i n (false, j, 0) := by
  subst hd
  refine pG_1 (fun f q => pF_2.trans <| (if_pos h).trans ((if_neg (Nat.succ_ne_zero e)).trans ?_)) q
  show pBn (pP o T f e 0 (i + 1) n) _ = _
  rw [q]; rfl
theorem pi_10z (h : T i = 3040) (hd : d = 0) : pG o T d 10 i n (false, i, 0) := pG_0 (fun f => pF_10.trans <| (if_pos h).trans (if_pos hd))
theorem pi_10a (h : T i = 3040) (hd : d = e + 1) (q : pG o T e 3 (i + 1) n (true, j, m)) (h2 : T j = 3041) : pG o T d 10 i n (true, j + 1, m) := by
  subst hd
  refine pG_1 (fun f q => pF_10.trans <| (if_pos h).trans ((if_neg (Nat.succ_ne_zero e)).trans ?_)) q
  show pBn (pP o T f e 3 (i + 1) n) _ = _
  rw [q]; exact if_pos h2
theorem pi_10b (h : T i = 3040) (hd : d = e + 1) (q : pG o T e 3 (i + 1) n (true, j, m)) (h2 : ¬ T j = 3041) : pG o T d 10 i n (false, j, 0) := by
  subst hd
  refine pG_1 (fun f q => pF_10.trans <| (if_pos h).trans ((if_neg (Nat.succ_ne_zero e)).trans ?_)) q
  show pBn (pP o T f e 3 (i + 1) n) _ = _
  rw [q]; exact if_neg h2
theorem pi_10f (h : T i = 3040) (hd : d = e + 1) (q : pG o T e 3 (i + 1) n (false, j, 0)) : pG o T d 10 i n (false, j, 0) := by
  subst hd
  refine pG_1 (fun f q => pF_10.trans <| (if_pos h).trans ((if_neg (Nat.succ_ne_zero e)).trans ?_)) q
  show pBn (pP o T f e 3 (i + 1) n) _ = _
  rw [q]; rfl
theorem pi_2x (h : ¬ T i = 3091) (h1 : pLf o (T i) = false) : pG o T d 2 i n (false, i, 0) := pG_0 (fun f => pF_2.trans <| (if_neg h).trans (if_pos h1))
theorem bne_f {b : Bool} (h : b = true) : ¬ b = false := by rw [h]; decide
theorem bne_t {b : Bool} (h : b = false) : ¬ b = true := by rw [h]; decide
theorem pi_2m (h : ¬ T i = 3091) (h1 : pLf o (T i) = true) (h2 : n = 50) : pG o T d 2 i n (false, i, 0) := pG_0 (fun f => pF_2.trans <| (if_neg h).trans ((if_neg (bne_f h1)).trans (if_pos h2)))
theorem pi_2l (h : ¬ T i = 3091) (h1 : pLf o (T i) = true) (h2 : ¬ n = 50) (h3 : pNm o (T i) = false) : pG o T d 2 i n (true, i + 1, n + 1) := pG_0 (fun f => pF_2.trans <| (if_neg h).trans ((if_neg (bne_f h1)).trans ((if_neg h2).trans (if_neg (bne_t h3)))))
theorem pi_2p (h : ¬ T i = 3091) (h1 : pLf o (T i) = true) (h2 : ¬ n = 50) (h3 : pNm o (T i) = true) (h4 : pInr (T (i + 1)) 0 (if T i = 2014 then 9 else 5) = true) : pG o T d 2 i n (true, i + 2, n + 1) := pG_0 (fun f => pF_2.trans <| (if_neg h).trans ((if_neg (bne_f h1)).trans ((if_neg h2).trans ((if_pos h3).trans (if_pos h4)))))
theorem pi_2q (h : ¬ T i = 3091) (h1 : pLf o (T i) = true) (h2 : ¬ n = 50) (h3 : pNm o (T i) = true) (h4 : pInr (T (i + 1)) 0 (if T i = 2014 then 9 else 5) = false) : pG o T d 2 i n (false, i + 1, 0) := pG_0 (fun f => pF_2.trans <| (if_neg h).trans ((if_neg (bne_f h1)).trans ((if_neg h2).trans ((if_pos h3).trans (if_neg (bne_t h4))))))
theorem pi_10c (h : ¬ T i = 3040) (q : pG o T d 0 i n (true, j, m)) (h2 : T j = 3060 ∨ T j = 3062 ∨ T j = 3061) (q2 : pG o T d 0 (j + 1) m r) : pG o T d 10 i n r := by
  obtain ⟨f, q, q2⟩ := pG_2 q q2
  refine ⟨f + 1, pF_10.trans <| (if_neg h).trans ?_⟩
  show pBn (pP o T f d 0 i n) _ = _
  rw [q]; exact (if_pos h2).trans q2
theorem pi_10n (h : ¬ T i = 3040) (q : pG o T d 0 i n (true, j, m)) (h2 : ¬ (T j = 3060 ∨ T j = 3062 ∨ T j = 3061)) : pG o T d 10 i n (false, j, 0) := by
  refine pG_1 (fun f q => pF_10.trans <| (if_neg h).trans ?_) q
  show pBn (pP o T f d 0 i n) _ = _
  rw [q]; exact if_neg h2
theorem pi_10g (h : ¬ T i = 3040) (q : pG o T d 0 i n (false, j, 0)) : pG o T d 10 i n (false, j, 0) := by
  refine pG_1 (fun f q => pF_10.trans <| (if_neg h).trans ?_) q
  show pBn (pP o T f d 0 i n) _ = _
  rw [q]; rfl
theorem pi_11a (h : T i = 2004 ∨ T i = 2005 ∨ T i = 2006) (q : pG o T d 0 (i + 1) n (true, j, m)) (q2 : pG o T d 12 j m r) : pG o T d 11 i n r := by
  obtain ⟨f, q, q2⟩ := pG_2 q q2
  refine ⟨f + 1, pF_11.trans <| (if_pos h).trans ?_⟩
  show pBn (pP o T f d 0 (i + 1) n) _ = _
  rw [q]; exact q2
theorem pi_11f (h : T i = 2004 ∨ T i = 2005 ∨ T i = 2006) (q : pG o T d 0 (i + 1) n (false, j, 0)) : pG o T d 11 i n (false, j, 0) := by
  refine pG_1 (fun f q => pF_11.trans <| (if_pos h).trans ?_) q
  show pBn (pP o T f d 0 (i + 1) n) _ = _
  rw [q]; rfl
theorem pi_11b (h : ¬ (T i = 2004 ∨ T i = 2005 ∨ T i = 2006)) (h1 : T i = 2007) (q : pG o T d 12 (i + 1) n r) : pG o T d 11 i n r := pG_1 (fun f q => pF_11.trans <| (if_neg h).trans ((if_pos h1).trans q)) q
theorem pi_11x (h : ¬ (T i = 2004 ∨ T i = 2005 ∨ T i = 2006)) (h1 : ¬ T i = 2007) : pG o T d 11 i n (false, i, 0) := pG_0 (fun f => pF_11.trans <| (if_neg h).trans (if_neg h1))
theorem pi_14y (h : T i = 2023) (h1 : pInr (T (i + 1)) 1 20 = true) (q : pG o T d 12 (i + 2) n r) : pG o T d 14 i n r := pG_1 (fun f q => pF_14.trans <| (if_pos h).trans ((if_pos h1).trans q)) q
theorem pi_14f (h : T i = 2023) (h1 : pInr (T (i + 1)) 1 20 = false) : pG o T d 14 i n (false, i + 1, 0) := pG_0 (fun f => pF_14.trans <| (if_pos h).trans (if_neg (bne_t h1)))
theorem pi_14n (h : ¬ T i = 2023) (q : pG o T d 12 i n r) : pG o T d 14 i n r := pG_1 (fun f q => pF_14.trans <| (if_neg h).trans q) q
theorem pi_13a (h : T i = 2018) (q : pG o T d 0 (i + 1) n (true, j, m)) (h2 : T j = 2022) (q2 : pG o T d 17 (j + 1) m r) : pG o T d 13 i n r := by
  obtain ⟨f, q, q2⟩ := pG_2 q q2
  refine ⟨f + 1, pF_13.trans <| (if_pos h).trans ?_⟩
  show pBn (pP o T f d 0 (i + 1) n) _ = _
  rw [q]; exact (if_pos h2).trans q2
theorem pi_13n (h : T i = 2018) (q : pG o T d 0 (i + 1) n (true, j, m)) (h2 : ¬ T j = 2022) : pG o T d 13 i n (false, j, 0) := by
  refine pG_1 (fun f q => pF_13.trans <| (if_pos h).trans ?_) q
  show pBn (pP o T f d 0 (i + 1) n) _ = _
  rw [q]; exact if_neg h2
theorem pi_13f (h : T i = 2018) (q : pG o T d 0 (i + 1) n (false, j, 0)) : pG o T d 13 i n (false, j, 0) := by
  refine pG_1 (fun f q => pF_13.trans <| (if_pos h).trans ?_) q
  show pBn (pP o T f d 0 (i + 1) n) _ = _
  rw [q]; rfl
theorem pi_13b (h : ¬ T i = 2018) (h1 : T i = 2019 ∨ T i = 2020) (q : pG o T d 17 (i + 1) n r) : pG o T d 13 i n r := pG_1 (fun f q => pF_13.trans <| (if_neg h).trans ((if_pos h1).trans q)) q
theorem pi_13c (h : ¬ T i = 2018) (h1 : ¬ (T i = 2019 ∨ T i = 2020)) (h2 : T i = 2021) (q : pG o T d 14 (i + 1) n r) : pG o T d 13 i n r := pG_1 (fun f q => pF_13.trans <| (if_neg h).trans ((if_neg h1).trans ((if_pos h2).trans q))) q
theorem pi_13x (h : ¬ T i = 2018) (h1 : ¬ (T i = 2019 ∨ T i = 2020)) (h2 : ¬ T i = 2021) : pG o T d 13 i n (false, i, 0) := pG_0 (fun f => pF_13.trans <| (if_neg h).trans ((if_neg h1).trans (if_neg h2)))
end PI
/-! a TEXT: q clauses may still come, N tokens -/
def pK (o : Bool) : Nat := if o = true then 13 else 11
def pT (o : Bool) (T : Nat → Int32) (N : Nat) : Nat → Nat → Nat → Bool × Nat → Prop
  | 0 => fun i _ r => r = (false, i)
  | q + 1 => fun i n r => (∃ j, pG o T 8 (pK o) i n (false, j, 0) ∧ r = (false, j)) ∨ ∃ j m, pG o T 8 (pK o) i n (true, j, m) ∧ ((T j = 3059 ∧ pT o T N q (j + 1) m r) ∨ (¬ T j = 3059 ∧ j < N ∧ r = (false, j)) ∨ (¬ T j = 3059 ∧ ¬ j < N ∧ r = (true, j)))
theorem pT_det {o : Bool} {T : Nat → Int32} {N : Nat} : ∀ q i n r s, pT o T N q i n r → pT o T N q i n s → r = s := by
  intro q
  induction q with
  | zero => intro i n r s h g; have h : r = (false, i) := h; have g : s = (false, i) := g; exact h.trans g.symm
  | succ q ih =>
    intro i n r s h g
    rcases h with ⟨j, h, hr⟩ | ⟨j, m, h, hr⟩ <;> rcases g with ⟨j', g, gr⟩ | ⟨j', m', g, gr⟩
    · have e := pG_det h g
      simp only [Prod.mk.injEq] at e
      rw [hr, gr, e.2.1]
    · have e := pG_det h g
      simp only [Prod.mk.injEq] at e
      exact absurd e.1 (by decide)
    · have e := pG_det h g
      simp only [Prod.mk.injEq] at e
      exact absurd e.1 (by decide)
    · have e := pG_det h g
      simp only [Prod.mk.injEq] at e
      obtain ⟨-, ej, em⟩ := e
      subst ej
      subst em
      rcases hr with ⟨a, b⟩ | ⟨a, b, c⟩ | ⟨a, b, c⟩ <;> rcases gr with ⟨a', b'⟩ | ⟨a', b', c'⟩ | ⟨a', b', c'⟩
      · exact ih _ _ _ _ b b'
      · exact absurd a a'
      · exact absurd a a'
      · exact absurd a' a
      · rw [c, c']
      · exact absurd b b'
      · exact absurd a' a
      · exact absurd b' b
      · rw [c, c']
/-! the reference's tokens as the class numbers them -/
def mpL : List Int32 := [1002, 2004, 2005, 2006, 2007, 2003, 2000, 2001, 2002, 2008, 2009, 2011, 2012, 2013, 2015, 2017, 2014, 2010, 2016, 2024, 2025, 2026, 2027, 2018, 2022, 2019, 2020, 2021, 2023]
def mpT (x : Int32) : Int32 := if 100 ≤ x.toInt then x + 2900 else mpL.getD x.toNatClampNeg 0
def mpOk (x : Int32) : Bool := decide (1 ≤ x.toInt ∧ x.toInt ≤ 28) || decide (100 ≤ x.toInt ∧ x.toInt ≤ 355)
def tOk (c v t : Int32) : Prop := (c = 0 ∧ (t = 1002 ∨ t = 4000)) ∨ (∃ k : Nat, 1 ≤ k ∧ k ≤ 28 ∧ c.toInt = (k : Int) ∧ t = mpL.getD k 0) ∨ (c = 50 ∧ 0 ≤ v.toInt ∧ ((v.toInt ≤ 1000 ∧ t = v) ∨ (1000 < v.toInt ∧ t = 1001))) ∨ (100 ≤ c.toInt ∧ c.toInt ≤ 355 ∧ t.toInt = c.toInt + 2900)
theorem mp_r : ∀ k < 29, 1 ≤ k → 2000 ≤ (mpL.getD k 0).toInt ∧ (mpL.getD k 0).toInt ≤ 2027 := by decide +kernel
theorem mp_i : ∀ a < 29, ∀ b < 29, mpL.getD a 0 = mpL.getD b 0 → a = b := by decide +kernel
theorem mp_ll : ∀ k < 29, pLf false (mpL.getD k 0) = decide (9 ≤ k ∧ k ≤ 18) := by decide +kernel
theorem mp_lo : ∀ k < 29, pLf true (mpL.getD k 0) = decide (16 ≤ k ∧ k ≤ 22) := by decide +kernel
theorem mp_no : ∀ k < 29, pNm true (mpL.getD k 0) = (decide (k = 16) || decide (k = 17) || decide (k = 22)) := by decide +kernel
theorem i0 : (0 : Int32).toInt = 0 := by decide +kernel
theorem i50 : (50 : Int32).toInt = 50 := by decide +kernel
theorem i1001 : (1001 : Int32).toInt = 1001 := by decide +kernel
theorem i1002 : (1002 : Int32).toInt = 1002 := by decide +kernel
theorem i4000 : (4000 : Int32).toInt = 4000 := by decide +kernel
theorem tk_add {x : Int32} (h : 100 ≤ x.toInt ∧ x.toInt ≤ 355) : (x + 2900).toInt = x.toInt + 2900 := by
  have b1 : kb 100 x 355 := h
  have b2 : kb 2900 2900 2900 := ⟨by decide +kernel, by decide +kernel⟩
  have e := kt_add b1 b2 (by decide) (by decide)
  have e2 : (2900 : Int32).toInt = 2900 := by decide +kernel
  rw [e2] at e
  exact e
theorem tk_iff {c v t x : Int32} (h : tOk c v t) (hx : mpOk x = true) : c = x ↔ t = mpT x := by
  suffices q : c.toInt = x.toInt ↔ t.toInt = (mpT x).toInt by
    rw [Int32.toInt_inj, Int32.toInt_inj] at q; exact q
  have z0 := i0
  have z50 := i50
  have z1 := i1001
  have z2 := i1002
  have z4 := i4000
  unfold mpOk at hx
  rw [Bool.or_eq_true, decide_eq_true_iff, decide_eq_true_iff] at hx
  rcases hx with hx | hx
  · obtain ⟨kx, hk⟩ : ∃ kx : Nat, x.toInt = (kx : Int) := ⟨x.toInt.toNat, by omega⟩
    have em : mpT x = mpL.getD kx 0 := by
      unfold mpT
      rw [if_neg (by omega)]
      have : x.toNatClampNeg = kx := by unfold Int32.toNatClampNeg; omega
      rw [this]
    have hr := mp_r kx (by omega) (by omega)
    rw [em]
    rcases h with ⟨h1, h2⟩ | ⟨k, h1, h2, h3, h4⟩ | ⟨h1, h2, h3⟩ | ⟨h1, h2, h3⟩
    · rcases h2 with h2 | h2
      · rw [h1, h2]; omega
      · rw [h1, h2]; omega
    · rw [h4, h3, hk]
      constructor
      · intro e
        have e2 : k = kx := by omega
        rw [e2]
      · intro e
        have e2 := mp_i k (by omega) kx (by omega) (Int32.toInt_inj.mp e)
        omega
    · rcases h3 with ⟨h3, h4⟩ | ⟨h3, h4⟩
      · rw [h1, h4]; omega
      · rw [h1, h4]; omega
    · omega
  · have em : (mpT x).toInt = x.toInt + 2900 := by
      unfold mpT
      rw [if_pos hx.1]
      exact tk_add hx
    rw [em]
    rcases h with ⟨h1, h2⟩ | ⟨k, h1, h2, h3, h4⟩ | ⟨h1, h2, h3⟩ | ⟨h1, h2, h3⟩
    · rcases h2 with h2 | h2
      · rw [h1, h2]; omega
      · rw [h1, h2]; omega
    · have hr := mp_r k (by omega) h1
      rw [h4]; omega
    · rcases h3 with ⟨h3, h4⟩ | ⟨h3, h4⟩
      · rw [h1, h4]; omega
      · rw [h1, h4]; omega
    · omega
theorem tk_50 {c v t : Int32} (h : tOk c v t) (h1 : c = 50) : 0 ≤ v.toInt ∧ ((v.toInt ≤ 1000 ∧ t = v) ∨ (1000 < v.toInt ∧ t = 1001)) := by
  have z0 := i0
  have z50 := i50
  have e1 := congrArg Int32.toInt h1
  rcases h with ⟨h2, -⟩ | ⟨k, h2, h3, h4, -⟩ | ⟨-, h3⟩ | ⟨h2, -, -⟩
  · have := congrArg Int32.toInt h2; omega
  · omega
  · exact h3
  · omega
theorem pIn_t {t : Int32} {lo hi : Int} (h : lo ≤ t.toInt ∧ t.toInt ≤ hi) : pInr t lo hi = true := decide_eq_true h
theorem pIn_f {t : Int32} {lo hi : Int} (h : ¬ (lo ≤ t.toInt ∧ t.toInt ≤ hi)) : pInr t lo hi = false := decide_eq_false h
theorem tk_n50 {c v t : Int32} (h : tOk c v t) (h1 : ¬ c = 50) : 1002 ≤ t.toInt := by
  have z2 := i1002
  have z4 := i4000
  rcases h with ⟨-, h2⟩ | ⟨k, h2, h3, h4, h5⟩ | ⟨h2, -⟩ | ⟨h2, -, h4⟩
  · rcases h2 with h2 | h2
    · rw [h2]; omega
    · rw [h2]; omega
  · have hr := mp_r k (by omega) h2
    rw [h5]; omega
  · exact absurd h2 h1
  · omega
theorem pn_y {c v t : Int32} {lo hi : Int} (h : tOk c v t) (h1 : c = 50) (h2 : lo ≤ v.toInt ∧ v.toInt ≤ hi) (h3 : hi ≤ 20) : pInr t lo hi = true := by
  rcases (tk_50 h h1).2 with ⟨-, e⟩ | ⟨q, -⟩
  · rw [e]; exact pIn_t h2
  · omega
theorem pn_n {c v t : Int32} {lo hi : Int} (h : tOk c v t) (h1 : ¬ (c = 50 ∧ lo ≤ v.toInt ∧ v.toInt ≤ hi)) (h3 : hi ≤ 20) : pInr t lo hi = false := by
  have z1 := i1001
  by_cases q : c = 50
  · rcases (tk_50 h q).2 with ⟨-, e⟩ | ⟨-, e⟩
    · rw [e]; exact pIn_f (fun w => h1 ⟨q, w⟩)
    · rw [e]; exact pIn_f (by omega)
  · have := tk_n50 h q
    exact pIn_f (by omega)
theorem i_ne {t x : Int32} (h : ¬ t.toInt = x.toInt) : ¬ t = x := fun e => h (congrArg Int32.toInt e)
theorem lf_n {o : Bool} {c v t : Int32} (h : tOk c v t) (h1 : c = 50) (h2 : v.toInt ≤ 1000) : pLf o t = true ∧ pNm o t = false := by
  obtain ⟨q1, q2⟩ := tk_50 h h1
  rcases q2 with ⟨-, e⟩ | ⟨q, -⟩
  · rw [e]
    constructor
    · unfold pLf
      rw [pIn_t ⟨q1, h2⟩]; rfl
    · unfold pNm
      have e1 : (2014 : Int32).toInt = 2014 := by decide +kernel
      have e2 : (2010 : Int32).toInt = 2010 := by decide +kernel
      have e3 : (2027 : Int32).toInt = 2027 := by decide +kernel
      rw [decide_eq_false (i_ne (by omega) : ¬ v = 2014), decide_eq_false (i_ne (by omega) : ¬ v = 2010), decide_eq_false (i_ne (by omega) : ¬ v = 2027)]
      cases o <;> rfl
  · omega
theorem tk_w {c v t : Int32} (h : tOk c v t) (h1 : 1 ≤ c.toInt ∧ c.toInt ≤ 28) : ∃ k : Nat, 1 ≤ k ∧ k ≤ 28 ∧ c.toInt = (k : Int) ∧ t = mpL.getD k 0 := by
  have z0 := i0
  have z50 := i50
  rcases h with ⟨h2, -⟩ | h2 | ⟨h2, -⟩ | ⟨h2, -, -⟩
  · have := congrArg Int32.toInt h2; omega
  · exact h2
  · have := congrArg Int32.toInt h2; omega
  · omega
theorem lf_l {c v t : Int32} (h : tOk c v t) (h1 : kb 9 c 18) : pLf false t = true ∧ pNm false t = false := by
  obtain ⟨k, q1, q2, q3, q4⟩ := tk_w h ⟨by have := h1.1; omega, by have := h1.2; omega⟩
  rw [q4]
  refine ⟨(mp_ll k (by omega)).trans (decide_eq_true ?_), rfl⟩
  have := h1.1
  have := h1.2
  omega
theorem lf_o {c v t : Int32} (h : tOk c v t) (h1 : kb 16 c 22) : pLf true t = true := by
  obtain ⟨k, q1, q2, q3, q4⟩ := tk_w h ⟨by have := h1.1; omega, by have := h1.2; omega⟩
  rw [q4]
  refine (mp_lo k (by omega)).trans (decide_eq_true ?_)
  have := h1.1
  have := h1.2
  omega
theorem lf_on {c v t : Int32} (h : tOk c v t) (h1 : kb 16 c 22) (n1 : ¬ c = 16) (n2 : ¬ c = 17) (n3 : ¬ c = 22) : pNm true t = false := by
  obtain ⟨k, q1, q2, q3, q4⟩ := tk_w h ⟨by have := h1.1; omega, by have := h1.2; omega⟩
  have e1 : (16 : Int32).toInt = 16 := by decide +kernel
  have e2 : (17 : Int32).toInt = 17 := by decide +kernel
  have e3 : (22 : Int32).toInt = 22 := by decide +kernel
  rw [q4, mp_no k (by omega)]
  rw [decide_eq_false (fun e => n1 (Int32.toInt_inj.mp (by omega)) : ¬ k = 16), decide_eq_false (fun e => n2 (Int32.toInt_inj.mp (by omega)) : ¬ k = 17), decide_eq_false (fun e => n3 (Int32.toInt_inj.mp (by omega)) : ¬ k = 22)]
  rfl
theorem lf_f {o : Bool} {c v t : Int32} (h : tOk c v t) (h0 : ¬ (c = 50 ∧ v.toInt ≤ 1000)) (h1 : ¬ (kb (if o = true then 16 else 9) c (if o = true then 22 else 18))) : pLf o t = false := by
  have z0 := i0
  rcases h with ⟨h2, h3⟩ | ⟨k, h2, h3, h4, h5⟩ | ⟨h2, h3, h4⟩ | ⟨h2, h3, h4⟩
  · rcases h3 with h3 | h3
    · rw [h3]; cases o <;> decide +kernel
    · rw [h3]; cases o <;> decide +kernel
  · rw [h5]
    cases o with
    | false =>
      refine (mp_ll k (by omega)).trans (decide_eq_false (fun q => h1 ?_))
      exact ⟨by rw [if_neg (by decide)]; omega, by rw [if_neg (by decide)]; omega⟩
    | true =>
      refine (mp_lo k (by omega)).trans (decide_eq_false (fun q => h1 ?_))
      exact ⟨by rw [if_pos rfl]; omega, by rw [if_pos rfl]; omega⟩
  · rcases h4 with ⟨h4, -⟩ | ⟨-, h4⟩
    · exact absurd ⟨h2, h4⟩ h0
    · rw [h4]; cases o <;> decide +kernel
  · have g : ∀ x : Int32, x.toInt ≤ 2999 → ¬ t = x := fun x hx => i_ne (by omega)
    unfold pLf
    rw [pIn_f (by omega)]
    cases o with
    | false => rw [if_neg (by decide), pIn_f (by omega)]; rfl
    | true =>
      rw [if_pos rfl, decide_eq_false (g 2014 (by decide +kernel)), decide_eq_false (g 2010 (by decide +kernel)), decide_eq_false (g 2027 (by decide +kernel)), decide_eq_false (g 2016 (by decide +kernel)), decide_eq_false (g 2024 (by decide +kernel)), decide_eq_false (g 2025 (by decide +kernel)), decide_eq_false (g 2026 (by decide +kernel))]
      rfl
/-- T: the tokens that were split, the class's numbers -/
def rQ (a : Nat → Nat → Int32) (N : Nat) (T : Nat → Int32) : Prop := (∀ i, i < N → tOk (a 15 i) (a 16 i) (T i)) ∧ ∀ i, N ≤ i → T i = 4000
theorem rQ_ld {f : Nat → Int32} {a : Nat → Nat → Int32} {N i : Nat} {ob : Bool} {T : Nat → Int32} {x : Int32} (hQ : rQ a N T) (hS : rS f a N ob) (h : i ≤ N) (e : x.toInt = (i : Int)) : tOk (a 15 x.toNatClampNeg) (a 16 x.toNatClampNeg) (T i) := by
  have e2 : x.toNatClampNeg = i := by unfold Int32.toNatClampNeg; omega
  rw [e2]
  by_cases q : i < N
  · exact hQ.1 i q
  · have e3 : i = N := by omega
    rw [e3]
    exact Or.inl ⟨hS.2.2.1, Or.inr (hQ.2 N (Nat.le_refl N))⟩
theorem tOk_eq {c c' v t : Int32} (e : c = c') (h : tOk c' v t) : tOk c v t := e ▸ h
theorem tOk_eq2 {c c' v v' t : Int32} (e : c = c') (e2 : v = v') (h : tOk c' v' t) : tOk c v t := e ▸ e2 ▸ h
theorem mz_ne {x : Int32} (h : mpOk x = true) : ¬ x = 0 := by
  intro e
  rw [e] at h
  exact absurd h (by decide +kernel)
/-! the tape's tokens: where they begin, what they are -/
def isS (b : Int32) : Bool := decide (97 ≤ b.toInt ∧ b.toInt ≤ 122)
def isD (b : Int32) : Bool := decide (48 ≤ b.toInt ∧ b.toInt ≤ 57)
def isB (b : Int32) : Bool := decide (b = 32)
def rnF (p : Int32 → Bool) (t : Nat → Int32) (S : Nat) : Nat → Nat
  | 0 => S
  | q + 1 => if p (t (S - (q + 1))) = true then rnF p t S q else S - (q + 1)
/-- from k on the first place at which p does not hold, S at most -/
def rn (p : Int32 → Bool) (t : Nat → Int32) (S k : Nat) : Nat := rnF p t S (S - k)
section RN
variable {p : Int32 → Bool} {t : Nat → Int32} {S k : Nat}
theorem rn_y (hk : k < S) (h : p (t k) = true) : rn p t S k = rn p t S (k + 1) := by
  unfold rn
  rw [show S - k = (S - (k + 1)) + 1 by omega]
  show (if p (t (S - ((S - (k + 1)) + 1))) = true then _ else _) = _
  rw [show S - ((S - (k + 1)) + 1) = k by omega, if_pos h]
theorem rn_n (hk : k < S) (h : ¬ p (t k) = true) : rn p t S k = k := by
  unfold rn
  rw [show S - k = (S - (k + 1)) + 1 by omega]
  show (if p (t (S - ((S - (k + 1)) + 1))) = true then _ else _) = _
  rw [show S - ((S - (k + 1)) + 1) = k by omega, if_neg h]
theorem rn_S (hk : S ≤ k) : rn p t S k = S := by
  unfold rn
  rw [show S - k = 0 by omega]
  rfl
theorem rnF_b : ∀ q, q ≤ S → S - q ≤ rnF p t S q ∧ rnF p t S q ≤ S := by
  intro q
  induction q with
  | zero => intro _; exact ⟨Nat.sub_le _ _, Nat.le_refl S⟩
  | succ q ih =>
    intro hq
    have := ih (by omega)
    show S - (q + 1) ≤ (if p (t (S - (q + 1))) = true then rnF p t S q else S - (q + 1)) ∧ (if p (t (S - (q + 1))) = true then rnF p t S q else S - (q + 1)) ≤ S
    split
    · omega
    · omega
theorem rn_b (hk : k ≤ S) : k ≤ rn p t S k ∧ rn p t S k ≤ S := by
  have := rnF_b (p := p) (t := t) (S := S) (S - k) (by omega)
  unfold rn
  omega
end RN
def enT (t : Nat → Int32) (S k : Nat) : Nat := if isS (t k) = true then rn isS t S (k + 1) else if isD (t k) = true then rn isD t S (k + 1) else k + 1
def plT (t : Nat → Int32) (S : Nat) : Nat → Nat
  | 0 => rn isB t S 0
  | i + 1 => if plT t S i < S then rn isB t S (enT t S (plT t S i)) else S
def nvT (t : Nat → Int32) (k : Nat) : Nat → Int
  | 0 => 0
  | q + 1 => 10 * nvT t k q + ((t (k + q)).toInt - 48)
def slF (t : Nat → Int32) : Nat → Nat → List Int32
  | _, 0 => []
  | k, q + 1 => t k :: slF t (k + 1) q
def slT (t : Nat → Int32) (k e : Nat) : List Int32 := slF t k (e - k)
def dcX : List (List Int32) := [[111, 114], [97, 110, 100], [110, 111, 116], [105, 102], [119, 111, 114, 107, 115], [116, 105, 114, 101, 115], [115, 104, 111, 119, 115], [98, 97, 114, 115], [98, 117, 105, 108, 100, 101, 114], [112, 97, 99, 101], [116, 105, 114, 101, 100], [112, 97, 114, 116], [99, 114, 97, 102, 116], [104, 101, 97, 118, 121], [108, 101, 102, 116], [119, 105, 116, 104], [104, 111, 117, 114], [109, 111, 111, 100], [115, 101, 110, 100], [114, 101, 115, 116], [116, 104, 114, 111, 119], [116, 105, 99, 107], [116, 111], [116, 105, 109, 101, 115], [100, 111, 110, 101], [115, 116, 111, 111, 100], [115, 116, 97, 110, 100, 105, 110, 103], [97, 116]]
def dcR : List (List Int32) := [[119, 111, 114, 107, 115], [116, 105, 114, 101, 115], [115, 104, 111, 119, 115], [98, 97, 114, 115], [105, 102], [111, 114], [97, 110, 100], [110, 111, 116], [98, 117, 105, 108, 100, 101, 114], [112, 97, 99, 101], [112, 97, 114, 116], [99, 114, 97, 102, 116], [104, 101, 97, 118, 121], [119, 105, 116, 104], [109, 111, 111, 100], [108, 101, 102, 116], [116, 105, 114, 101, 100], [104, 111, 117, 114], [100, 111, 110, 101], [115, 116, 111, 111, 100], [115, 116, 97, 110, 100, 105, 110, 103], [97, 116], [115, 101, 110, 100], [116, 111], [114, 101, 115, 116], [116, 104, 114, 111, 119], [116, 105, 99, 107], [116, 105, 109, 101, 115]]
def ofX : List Nat := [0, 3, 7, 11, 14, 20, 26, 32, 37, 45, 50, 56, 61, 67, 73, 78, 83, 88, 93, 98, 103, 109, 114, 117, 123, 128, 134, 143, 146]
def ofR : List Nat := [0, 6, 12, 18, 23, 26, 29, 33, 37, 45, 50, 55, 61, 67, 72, 77, 82, 88, 93, 98, 104, 113, 116, 121, 124, 129, 135, 140, 146]
def wdF (s : List Int32) : List (List Int32) → Nat → Int32
  | [], _ => 1002
  | x :: r, q => if x = s then Int32.ofNat (2000 + q) else wdF s r (q + 1)
def wdT (s : List Int32) : Int32 := wdF s dcX 0
def toT (t : Nat → Int32) (S k : Nat) : Int32 := if isS (t k) = true then wdT (slT t k (enT t S k)) else if isD (t k) = true then (if nvT t k (enT t S k - k) ≤ 1000 then Int32.ofInt (nvT t k (enT t S k - k)) else 1001) else 3000 + (t k &&& 255)
def tkT (t : Nat → Int32) (S i : Nat) : Int32 := if plT t S i < S then toT t S (plT t S i) else 4000
def pcT (t : Nat → Int32) (S i : Nat) : Int32 := Int32.ofNat (plT t S i)
theorem wdF_n {s : List Int32} : ∀ (l : List (List Int32)) (q : Nat), (∀ x ∈ l, ¬ x = s) → wdF s l q = 1002 := by
  intro l
  induction l with
  | nil => intro q _; rfl
  | cons x r ih =>
    intro q h
    show (if x = s then Int32.ofNat (2000 + q) else wdF s r (q + 1)) = 1002
    rw [if_neg (h x List.mem_cons_self)]
    exact ih (q + 1) (fun y hy => h y (List.mem_cons_of_mem _ hy))
theorem wdT_n {s : List Int32} (h : ∀ x ∈ dcX, ¬ x = s) : wdT s = 1002 := wdF_n dcX 0 h
theorem wdX : ∀ q < 28, wdT (dcX.getD q []) = Int32.ofNat (2000 + q) := by decide +kernel
theorem wdR : ∀ q < 28, wdT (dcR.getD q []) = mpL.getD (q + 1) 0 := by decide +kernel
theorem dcXR : ∀ x ∈ dcX, x ∈ dcR := by decide +kernel
theorem enT_gt {t : Nat → Int32} {S k : Nat} (hk : k < S) : k < enT t S k ∧ enT t S k ≤ S := by
  unfold enT
  split
  · have := rn_b (p := isS) (t := t) (S := S) (k := k + 1) (by omega); omega
  · split
    · have := rn_b (p := isD) (t := t) (S := S) (k := k + 1) (by omega); omega
    · omega
theorem plT_le {t : Nat → Int32} {S : Nat} : ∀ i, plT t S i ≤ S := by
  intro i
  cases i with
  | zero => exact (rn_b (Nat.zero_le S)).2
  | succ i =>
    show (if plT t S i < S then rn isB t S (enT t S (plT t S i)) else S) ≤ S
    split
    · rename_i h
      exact (rn_b (enT_gt h).2).2
    · exact Nat.le_refl S
theorem plT_s {t : Nat → Int32} {S i : Nat} (h : plT t S i < S) : plT t S (i + 1) = rn isB t S (enT t S (plT t S i)) := if_pos h
theorem plT_e {t : Nat → Int32} {S i j : Nat} (h : plT t S i = S) (hj : i ≤ j) : plT t S j = S := by
  induction hj with
  | refl => exact h
  | step _ ih => exact if_neg (by rw [ih]; exact Nat.lt_irrefl S)
theorem tkT_e {t : Nat → Int32} {S N i : Nat} (h : plT t S N = S) (hi : N ≤ i) : tkT t S i = 4000 := by
  unfold tkT
  rw [if_neg (by rw [plT_e h hi]; exact Nat.lt_irrefl S)]
theorem tkT_l {t : Nat → Int32} {S i : Nat} (h : plT t S i < S) : tkT t S i = toT t S (plT t S i) := if_pos h
theorem wdF_b (s : List Int32) : ∀ (l : List (List Int32)) (q : Nat), q + l.length ≤ 28 → kb 0 (wdF s l q) 3999 := by
  have w : ∀ q < 28, kb 0 (Int32.ofNat (2000 + q)) 3999 := by unfold kb; decide +kernel
  intro l
  induction l with
  | nil => intro q _; exact ⟨by show (0 : Int) ≤ (1002 : Int32).toInt; decide +kernel, by show (1002 : Int32).toInt ≤ 3999; decide +kernel⟩
  | cons x r ih =>
    intro q h
    have hl : (x :: r).length = r.length + 1 := rfl
    show kb 0 (if x = s then Int32.ofNat (2000 + q) else wdF s r (q + 1)) 3999
    by_cases e : x = s
    · rw [if_pos e]; exact w q (by omega)
    · rw [if_neg e]; exact ih (q + 1) (by omega)
theorem wdT_b (s : List Int32) : kb 0 (wdT s) 3999 := wdF_b s dcX 0 (by decide +kernel)
theorem nvT_0 {t : Nat → Int32} {k : Nat} : ∀ q, (∀ j < q, isD (t (k + j)) = true) → 0 ≤ nvT t k q := by
  intro q
  induction q with
  | zero => intro _; exact Int.le_refl 0
  | succ q ih =>
    intro h
    have h1 := ih (fun j hj => h j (by omega))
    have h2 := of_decide_eq_true (h q (by omega))
    show 0 ≤ 10 * nvT t k q + ((t (k + q)).toInt - 48)
    omega
theorem nvT_m {t : Nat → Int32} {k : Nat} : ∀ d q, (∀ j < q + d, isD (t (k + j)) = true) → nvT t k q ≤ nvT t k (q + d) := by
  intro d
  induction d with
  | zero => intro q _; exact Int.le_refl _
  | succ d ih =>
    intro q h
    have h1 := ih q (fun j hj => h j (by omega))
    have h0 := nvT_0 (t := t) (k := k) (q + d) (fun j hj => h j (by omega))
    have h2 := of_decide_eq_true (h (q + d) (by omega))
    show nvT t k q ≤ 10 * nvT t k (q + d) + ((t (k + (q + d))).toInt - 48)
    omega
/-- words within a row of bytes -/
def wdA (D : Nat → Int32) (o l : Nat) : List Int32 := slF D o l
theorem slF_eq {t D : Nat → Int32} : ∀ (l k o : Nat), (∀ j, j < l → D (o + j) = t (k + j)) → slF D o l = slF t k l := by
  intro l
  induction l with
  | zero => intro k o _; rfl
  | succ l ih =>
    intro k o h
    show D o :: slF D (o + 1) l = t k :: slF t (k + 1) l
    rw [show D o = t k from h 0 (by omega), ih (k + 1) (o + 1) (fun j hj => by rw [show o + 1 + j = o + (j + 1) by omega, show k + 1 + j = k + (j + 1) by omega]; exact h (j + 1) (by omega))]
theorem slF_len {t : Nat → Int32} : ∀ (l k : Nat), (slF t k l).length = l := by
  intro l
  induction l with
  | zero => intro k; rfl
  | succ l ih =>
    intro k
    show (slF t (k + 1) l).length + 1 = l + 1
    rw [ih]
theorem slF_at {t D : Nat → Int32} : ∀ (l k o : Nat), slF D o l = slF t k l → ∀ j, j < l → D (o + j) = t (k + j) := by
  intro l
  induction l with
  | zero => intro k o _ j hj; exact absurd hj (Nat.not_lt_zero j)
  | succ l ih =>
    intro k o h j hj
    have h : D o :: slF D (o + 1) l = t k :: slF t (k + 1) l := h
    have h1 := (List.cons.inj h).1
    have h2 := (List.cons.inj h).2
    cases j with
    | zero => exact h1
    | succ j =>
      have := ih (k + 1) (o + 1) h2 j (by omega)
      rw [show o + 1 + j = o + (j + 1) by omega, show k + 1 + j = k + (j + 1) by omega] at this
      exact this
theorem sl_eq {t D : Nat → Int32} {k e o l : Nat} (h : l = e - k) (q : ∀ j, j < l → D (o + j) = t (k + j)) : wdA D o l = slT t k e := by
  unfold slT wdA
  rw [← h]
  exact slF_eq l k o q
theorem sl_len {t D : Nat → Int32} {k e o l : Nat} (h : wdA D o l = slT t k e) : l = e - k := by
  have w := congrArg List.length h
  unfold wdA slT at w
  rw [slF_len, slF_len] at w
  exact w
theorem sl_at {t D : Nat → Int32} {k e o l j : Nat} (h : wdA D o l = slT t k e) (hj : j < l) : D (o + j) = t (k + j) := by
  have hl := sl_len h
  unfold wdA slT at h
  rw [← hl] at h
  exact slF_at l k o h j hj
def wBR (j : Nat) : Int32 := Int32.ofInt (mWd.getD j 0)
def lnR (q : Nat) : Nat := ofR.getD (q + 1) 0 - ofR.getD q 0 - 1
def lnX (q : Nat) : Nat := ofX.getD (q + 1) 0 - ofX.getD q 0 - 1
theorem dcR_A : ∀ q < 28, dcR.getD q [] = wdA wBR (ofR.getD q 0) (lnR q) := by decide +kernel
theorem ofR_l : ∀ q < 28, ofR.getD q 0 + lnR q + 1 = ofR.getD (q + 1) 0 ∧ ofR.getD (q + 1) 0 ≤ 146 := by decide +kernel
theorem ofR_28 : ofR.getD 28 0 = 146 := by decide +kernel
theorem wBR_n : ∀ q < 28, ∀ j < lnR q, ¬ wBR (ofR.getD q 0 + j) = 32 := by decide +kernel
theorem wBR_e : ∀ q < 28, wBR (ofR.getD q 0 + lnR q) = 32 := by decide +kernel
theorem ofX_l : ∀ q < 28, ofX.getD q 0 + lnX q + 1 = ofX.getD (q + 1) 0 ∧ ofX.getD (q + 1) 0 ≤ 146 := by decide +kernel
theorem ofX_28 : ofX.getD 28 0 = 146 := by decide +kernel
theorem dc_mem {s : List Int32} : ∀ (d : List (List Int32)), (∀ q < d.length, ¬ d.getD q [] = s) → ∀ x ∈ d, ¬ x = s := by
  intro d
  induction d with
  | nil => intro _ x hx; cases hx
  | cons y r ih =>
    intro h x hx
    rcases List.mem_cons.mp hx with e | e
    · rw [e]; exact h 0 (Nat.zero_lt_succ _)
    · exact ih (fun q hq => h (q + 1) (Nat.succ_lt_succ hq)) x e
theorem wd_0 {s : List Int32} (h : ∀ q < 28, ¬ dcR.getD q [] = s) : wdT s = 1002 := wdT_n (fun x hx => dc_mem dcR (fun q hq => h q (by have e : dcR.length = 28 := (by decide +kernel); omega)) x (dcXR x hx))
theorem wd_X0 {s : List Int32} (h : ∀ q < 28, ¬ dcX.getD q [] = s) : wdT s = 1002 := wdT_n (dc_mem dcX (fun q hq => h q (by have e : dcX.length = 28 := (by decide +kernel); omega)))
theorem rn_all {p : Int32 → Bool} {t : Nat → Int32} {S : Nat} (k j : Nat) (hk : k ≤ j) (hj : j < rn p t S k) : p (t j) = true := by
  have hb : k ≤ S := by
    by_cases w : k ≤ S
    · exact w
    · rw [rn_S (by omega)] at hj; omega
  obtain ⟨d, hd⟩ : ∃ d, d = j - k := ⟨_, rfl⟩
  induction d generalizing k with
  | zero =>
    have e : j = k := by omega
    rw [e]
    cases q : p (t k) with
    | true => rfl
    | false =>
      by_cases w : k < S
      · rw [rn_n w (by rw [q]; decide)] at hj; omega
      · rw [rn_S (by omega)] at hj; omega
  | succ d ih =>
    by_cases w : k < S
    · cases q : p (t k) with
      | true => rw [rn_y w q] at hj; exact ih (k + 1) (by omega) hj (by omega) (by omega)
      | false => rw [rn_n w (by rw [q]; decide)] at hj; omega
    · rw [rn_S (by omega)] at hj; omega

