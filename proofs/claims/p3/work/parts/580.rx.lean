/-! values of texts: functions of the words' numbers -/
abbrev eV : Type := (Nat → Int) → Option Int
def e1 : eV := fun _ => some 1
def bnd (x : Int) : Option Int := if x < -1000000000 ∨ 1000000000 < x then none else some x
def jnV (op : Nat) (x y : Int) : Option Int :=
  if op = 5 then bnd (x + y) else if op = 6 then bnd (x - y) else if op = 7 then bnd (x * y)
  else if op = 8 then (if y = 0 then none else bnd (x.tdiv y)) else if op = 9 then (if y = 0 then none else bnd (x.tmod y))
  else if op = 10 then some (if x < y then 1 else 0) else if op = 11 then some (if y < x then 1 else 0) else some (if x = y then 1 else 0)
def jnO (op : Nat) (a b : eV) : eV := fun W => (a W).bind fun x => (b W).bind fun y => jnV op x y
def anO (a b : eV) : eV := fun W => (a W).bind fun x => if x = 0 then some x else b W
def orO (a b : eV) : eV := fun W => (a W).bind fun x => if x = 0 then b W else some x
def ntO (a : eV) : eV := fun W => (a W).bind fun x => some (1 - x)
/-- where a word's number stands among the words' numbers -/
def wIx (o : Bool) (t u : Int32) : Nat := if o = true then (if t = 2016 then 0 else if t = 2024 then 1 else if t = 2025 then 2 else if t = 2026 then 3 else if t = 2014 then 4 + u.toInt.toNat else if t = 2010 then 14 + u.toInt.toNat else 20 + u.toInt.toNat) else (t.toInt - 2008).toNat
def lfO (o : Bool) (t u : Int32) : eV := fun W => some (if 0 ≤ t.toInt ∧ t.toInt ≤ 1000 then t.toInt else W (wIx o t u))
def opC (t : Int32) : Nat := if t = 3043 then 5 else if t = 3045 then 6 else if t = 3042 then 7 else if t = 3047 then 8 else if t = 3037 then 9 else if t = 3060 then 10 else if t = 3062 then 11 else 12
/-- the piece of kind k from i to j has the value v (x: what stands ahead of it, for the rests 6, 7, 8, 9) -/
def eF (o : Bool) (T : Nat → Int32) (R : Nat → Nat → Nat → eV → Nat → eV → Prop) (d k i : Nat) (x : eV) (j : Nat) (v : eV) : Prop :=
  match k with
  | 0 => ∃ m w, R d 1 i e1 m w ∧ R d 6 m w j v
  | 6 => (¬ (T i = 3043 ∨ T i = 3045) ∧ j = i ∧ v = x) ∨ ((T i = 3043 ∨ T i = 3045) ∧ ∃ m w, R d 1 (i + 1) e1 m w ∧ R d 6 m (jnO (opC (T i)) x w) j v)
  | 1 => ∃ m w, R d 2 i e1 m w ∧ R d 7 m w j v
  | 7 => (¬ (T i = 3042 ∨ T i = 3047 ∨ T i = 3037) ∧ j = i ∧ v = x) ∨ ((T i = 3042 ∨ T i = 3047 ∨ T i = 3037) ∧ ∃ m w, R d 2 (i + 1) e1 m w ∧ R d 7 m (jnO (opC (T i)) x w) j v)
  | 2 => (T i = 3091 ∧ ∃ e m, d = e + 1 ∧ R e 0 (i + 1) e1 m v ∧ T m = 3093 ∧ j = m + 1) ∨ (pLf o (T i) = true ∧ pNm o (T i) = false ∧ j = i + 1 ∧ v = lfO o (T i) (T (i + 1))) ∨ (pNm o (T i) = true ∧ pInr (T (i + 1)) 0 (if T i = 2014 then 9 else 5) = true ∧ j = i + 2 ∧ v = lfO o (T i) (T (i + 1)))
  | 3 => ∃ m w, R d 4 i e1 m w ∧ R d 8 m w j v
  | 8 => (¬ T i = 2000 ∧ j = i ∧ v = x) ∨ (T i = 2000 ∧ ∃ m w, R d 4 (i + 1) e1 m w ∧ R d 8 m (orO x w) j v)
  | 4 => ∃ m w, R d 5 i e1 m w ∧ R d 9 m w j v
  | 9 => (¬ T i = 2001 ∧ j = i ∧ v = x) ∨ (T i = 2001 ∧ ∃ m w, R d 5 (i + 1) e1 m w ∧ R d 9 m (anO x w) j v)
  | 5 => (T i = 2002 ∧ ∃ w, R d 5 (i + 1) e1 j w ∧ v = ntO w) ∨ (¬ T i = 2002 ∧ R d 10 i e1 j v)
  | 10 => (T i = 3040 ∧ ∃ e m, d = e + 1 ∧ R e 3 (i + 1) e1 m v ∧ T m = 3041 ∧ j = m + 1) ∨ (¬ T i = 3040 ∧ ∃ m w z, R d 0 i e1 m w ∧ (T m = 3060 ∨ T m = 3062 ∨ T m = 3061) ∧ R d 0 (m + 1) e1 j z ∧ v = jnO (opC (T m)) w z)
  | _ => False
def ee (o : Bool) (T : Nat → Int32) : Nat → Nat → Nat → Nat → eV → Nat → eV → Prop
  | 0 => fun _ _ _ _ _ _ => False
  | n + 1 => eF o T (ee o T n)
def eG (o : Bool) (T : Nat → Int32) (d k i : Nat) (x : eV) (j : Nat) (v : eV) : Prop := ∃ n, ee o T n d k i x j v
theorem eF_mono {o : Bool} {T : Nat → Int32} {R R' : Nat → Nat → Nat → eV → Nat → eV → Prop} (h : ∀ d k i x j v, R d k i x j v → R' d k i x j v) : ∀ d k i x j v, eF o T R d k i x j v → eF o T R' d k i x j v := by
  intro d k i x j v q
  unfold eF at *
  split at q
  · exact q.elim fun m q => q.elim fun w q => ⟨m, w, h _ _ _ _ _ _ q.1, h _ _ _ _ _ _ q.2⟩
  · exact q.imp id fun q => ⟨q.1, q.2.elim fun m q => q.elim fun w q => ⟨m, w, h _ _ _ _ _ _ q.1, h _ _ _ _ _ _ q.2⟩⟩
  · exact q.elim fun m q => q.elim fun w q => ⟨m, w, h _ _ _ _ _ _ q.1, h _ _ _ _ _ _ q.2⟩
  · exact q.imp id fun q => ⟨q.1, q.2.elim fun m q => q.elim fun w q => ⟨m, w, h _ _ _ _ _ _ q.1, h _ _ _ _ _ _ q.2⟩⟩
  · refine q.imp (fun q => ⟨q.1, ?_⟩) id
    obtain ⟨e, m, q1, q2, q3⟩ := q.2
    exact ⟨e, m, q1, h _ _ _ _ _ _ q2, q3⟩
  · exact q.elim fun m q => q.elim fun w q => ⟨m, w, h _ _ _ _ _ _ q.1, h _ _ _ _ _ _ q.2⟩
  · exact q.imp id fun q => ⟨q.1, q.2.elim fun m q => q.elim fun w q => ⟨m, w, h _ _ _ _ _ _ q.1, h _ _ _ _ _ _ q.2⟩⟩
  · exact q.elim fun m q => q.elim fun w q => ⟨m, w, h _ _ _ _ _ _ q.1, h _ _ _ _ _ _ q.2⟩
  · exact q.imp id fun q => ⟨q.1, q.2.elim fun m q => q.elim fun w q => ⟨m, w, h _ _ _ _ _ _ q.1, h _ _ _ _ _ _ q.2⟩⟩
  · exact q.imp (fun q => ⟨q.1, q.2.elim fun w q => ⟨w, h _ _ _ _ _ _ q.1, q.2⟩⟩) (fun q => ⟨q.1, h _ _ _ _ _ _ q.2⟩)
  · refine q.imp (fun q => ⟨q.1, ?_⟩) (fun q => ⟨q.1, ?_⟩)
    · obtain ⟨e, m, q1, q2, q3⟩ := q.2
      exact ⟨e, m, q1, h _ _ _ _ _ _ q2, q3⟩
    · obtain ⟨m, w, z, q1, q2, q3, q4⟩ := q.2
      exact ⟨m, w, z, h _ _ _ _ _ _ q1, q2, h _ _ _ _ _ _ q3, q4⟩
  · exact q
theorem ee_s {o : Bool} {T : Nat → Int32} : ∀ n d k i x j v, ee o T n d k i x j v → ee o T (n + 1) d k i x j v := by
  intro n
  induction n with
  | zero => intro d k i x j v h; exact h.elim
  | succ n ih => exact eF_mono ih
theorem ee_le {o : Bool} {T : Nat → Int32} {n n' d k i : Nat} {x : eV} {j : Nat} {v : eV} (h : n ≤ n') (q : ee o T n d k i x j v) : ee o T n' d k i x j v := by
  induction h with
  | refl => exact q
  | step _ ih => exact ee_s _ _ _ _ _ _ _ ih
theorem eG_out {o : Bool} {T : Nat → Int32} {d k i : Nat} {x : eV} {j : Nat} {v : eV} (h : eG o T d k i x j v) : eF o T (eG o T) d k i x j v := by
  obtain ⟨n, h⟩ := h
  cases n with
  | zero => exact h.elim
  | succ n => exact eF_mono (fun d k i x j v q => ⟨n, q⟩) _ _ _ _ _ _ h
theorem ee_out {o : Bool} {T : Nat → Int32} {n d k i : Nat} {x : eV} {j : Nat} {v : eV} (h : ee o T (n + 1) d k i x j v) : eF o T (ee o T n) d k i x j v := h
theorem eG_of {o : Bool} {T : Nat → Int32} {n d k i : Nat} {x : eV} {j : Nat} {v : eV} (h : ee o T n d k i x j v) : eG o T d k i x j v := ⟨n, h⟩
section EI
variable {o : Bool} {T : Nat → Int32} {d d' e k k' i i' j j' m : Nat} {x x' v v' w z : eV}
theorem eG_2 (h : eG o T d k i x j v) (q : eG o T d' k' i' x' j' v') : ∃ n, ee o T n d k i x j v ∧ ee o T n d' k' i' x' j' v' := by
  obtain ⟨n, h⟩ := h
  obtain ⟨p, q⟩ := q
  exact ⟨max n p, ee_le (Nat.le_max_left n p) h, ee_le (Nat.le_max_right n p) q⟩
theorem ei_0 (h : eG o T d 1 i e1 m w) (q : eG o T d 6 m w j v) : eG o T d 0 i e1 j v := by
  obtain ⟨n, h, q⟩ := eG_2 h q
  exact ⟨n + 1, m, w, h, q⟩
theorem ei_6n (h : ¬ (T i = 3043 ∨ T i = 3045)) : eG o T d 6 i x i x := ⟨1, Or.inl ⟨h, rfl, rfl⟩⟩
theorem ei_6y (h : T i = 3043 ∨ T i = 3045) (h1 : eG o T d 1 (i + 1) e1 m w) (q : eG o T d 6 m (jnO (opC (T i)) x w) j v) : eG o T d 6 i x j v := by
  obtain ⟨n, h1, q⟩ := eG_2 h1 q
  exact ⟨n + 1, Or.inr ⟨h, m, w, h1, q⟩⟩
theorem ei_1 (h : eG o T d 2 i e1 m w) (q : eG o T d 7 m w j v) : eG o T d 1 i e1 j v := by
  obtain ⟨n, h, q⟩ := eG_2 h q
  exact ⟨n + 1, m, w, h, q⟩
theorem ei_7n (h : ¬ (T i = 3042 ∨ T i = 3047 ∨ T i = 3037)) : eG o T d 7 i x i x := ⟨1, Or.inl ⟨h, rfl, rfl⟩⟩
theorem ei_7y (h : T i = 3042 ∨ T i = 3047 ∨ T i = 3037) (h1 : eG o T d 2 (i + 1) e1 m w) (q : eG o T d 7 m (jnO (opC (T i)) x w) j v) : eG o T d 7 i x j v := by
  obtain ⟨n, h1, q⟩ := eG_2 h1 q
  exact ⟨n + 1, Or.inr ⟨h, m, w, h1, q⟩⟩
theorem ei_2b (h : T i = 3091) (hd : d = e + 1) (h1 : eG o T e 0 (i + 1) e1 m v) (h2 : T m = 3093) : eG o T d 2 i e1 (m + 1) v := by
  obtain ⟨n, h1⟩ := h1
  exact ⟨n + 1, Or.inl ⟨h, e, m, hd, h1, h2, rfl⟩⟩
theorem ei_2l (h : pLf o (T i) = true) (h2 : pNm o (T i) = false) : eG o T d 2 i e1 (i + 1) (lfO o (T i) (T (i + 1))) := ⟨1, Or.inr (Or.inl ⟨h, h2, rfl, rfl⟩)⟩
theorem ei_2p (h : pNm o (T i) = true) (h2 : pInr (T (i + 1)) 0 (if T i = 2014 then 9 else 5) = true) : eG o T d 2 i e1 (i + 2) (lfO o (T i) (T (i + 1))) := ⟨1, Or.inr (Or.inr ⟨h, h2, rfl, rfl⟩)⟩
theorem ei_3 (h : eG o T d 4 i e1 m w) (q : eG o T d 8 m w j v) : eG o T d 3 i e1 j v := by
  obtain ⟨n, h, q⟩ := eG_2 h q
  exact ⟨n + 1, m, w, h, q⟩
theorem ei_8n (h : ¬ T i = 2000) : eG o T d 8 i x i x := ⟨1, Or.inl ⟨h, rfl, rfl⟩⟩
theorem ei_8y (h : T i = 2000) (h1 : eG o T d 4 (i + 1) e1 m w) (q : eG o T d 8 m (orO x w) j v) : eG o T d 8 i x j v := by
  obtain ⟨n, h1, q⟩ := eG_2 h1 q
  exact ⟨n + 1, Or.inr ⟨h, m, w, h1, q⟩⟩
theorem ei_4 (h : eG o T d 5 i e1 m w) (q : eG o T d 9 m w j v) : eG o T d 4 i e1 j v := by
  obtain ⟨n, h, q⟩ := eG_2 h q
  exact ⟨n + 1, m, w, h, q⟩
theorem ei_9n (h : ¬ T i = 2001) : eG o T d 9 i x i x := ⟨1, Or.inl ⟨h, rfl, rfl⟩⟩
theorem ei_9y (h : T i = 2001) (h1 : eG o T d 5 (i + 1) e1 m w) (q : eG o T d 9 m (anO x w) j v) : eG o T d 9 i x j v := by
  obtain ⟨n, h1, q⟩ := eG_2 h1 q
  exact ⟨n + 1, Or.inr ⟨h, m, w, h1, q⟩⟩
theorem ei_5y (h : T i = 2002) (h1 : eG o T d 5 (i + 1) e1 j w) : eG o T d 5 i e1 j (ntO w) := by
  obtain ⟨n, h1⟩ := h1
  exact ⟨n + 1, Or.inl ⟨h, w, h1, rfl⟩⟩
theorem ei_5n (h : ¬ T i = 2002) (h1 : eG o T d 10 i e1 j v) : eG o T d 5 i e1 j v := by
  obtain ⟨n, h1⟩ := h1
  exact ⟨n + 1, Or.inr ⟨h, h1⟩⟩
theorem ei_10b (h : T i = 3040) (hd : d = e + 1) (h1 : eG o T e 3 (i + 1) e1 m v) (h2 : T m = 3041) : eG o T d 10 i e1 (m + 1) v := by
  obtain ⟨n, h1⟩ := h1
  exact ⟨n + 1, Or.inl ⟨h, e, m, hd, h1, h2, rfl⟩⟩
theorem ei_10c (h : ¬ T i = 3040) (h1 : eG o T d 0 i e1 m w) (h2 : T m = 3060 ∨ T m = 3062 ∨ T m = 3061) (h3 : eG o T d 0 (m + 1) e1 j z) : eG o T d 10 i e1 j (jnO (opC (T m)) w z) := by
  obtain ⟨n, h1, h3⟩ := eG_2 h1 h3
  exact ⟨n + 1, Or.inr ⟨h, m, w, z, h1, h2, h3, rfl⟩⟩
end EI
/-! the class's code: a run from a place with a stack (none: out of steps, or what the class would not do) -/
def rkF (c : Nat → Int32) (W : Nat → Int) (wn to : Nat) (R : Nat → List Int → Option (Option Int)) (p : Nat) (S : List Int) : Option (Option Int) :=
  if to ≤ p then (match S with | [x] => some (some x) | _ => none)
  else if (c p).toInt / 4096 = 0 then (if S.length < 32 then R (p + 1) ((c p).toInt % 4096 :: S) else none)
  else if (c p).toInt / 4096 = 1 then (if S.length < 32 ∧ ((c p).toInt % 4096).toNat < wn then R (p + 1) (W ((c p).toInt % 4096).toNat :: S) else none)
  else match S with
    | [] => none
    | x :: S' =>
      if (c p).toInt / 4096 = 2 then R (p + 1) ((1 - x) :: S')
      else if (c p).toInt / 4096 = 3 then (if x = 0 then R (p + 1) S' else if (p : Int) < (c p).toInt % 4096 then R ((c p).toInt % 4096).toNat (x :: S') else none)
      else if (c p).toInt / 4096 = 4 then (if x = 0 then (if (p : Int) < (c p).toInt % 4096 then R ((c p).toInt % 4096).toNat (x :: S') else none) else R (p + 1) S')
      else match S' with
        | [] => none
        | y :: S2 =>
          if 5 ≤ (c p).toInt / 4096 ∧ (c p).toInt / 4096 ≤ 12 then (match jnV ((c p).toInt / 4096).toNat y x with | none => some none | some v => R (p + 1) (v :: S2)) else none
def rk (c : Nat → Int32) (W : Nat → Int) (wn to : Nat) : Nat → Nat → List Int → Option (Option Int)
  | 0 => fun _ _ => none
  | f + 1 => rkF c W wn to (rk c W wn to f)
def rK (c : Nat → Int32) (W : Nat → Int) (wn to p : Nat) (S : List Int) (r : Option Int) : Prop := ∃ f, rk c W wn to f p S = some r
section RK
variable {c c' : Nat → Int32} {W : Nat → Int} {wn to p q a b m n nd nd' : Nat} {S : List Int} {r : Option Int} {x y : Int} {R : Nat → List Int → Option (Option Int)} {u v w : eV}
theorem rf_end (hp : to ≤ p) : rkF c W wn to R p [x] = some (some x) := by
  unfold rkF
  rw [if_pos hp]
theorem rf_push (hp : p < to) (e : (c p).toInt / 4096 = 0) (hS : S.length < 32) : rkF c W wn to R p S = R (p + 1) ((c p).toInt % 4096 :: S) := by
  unfold rkF
  rw [if_neg (by omega), if_pos e, if_pos hS]
theorem rf_ask (hp : p < to) (e : (c p).toInt / 4096 = 1) (hS : S.length < 32) (hw : ((c p).toInt % 4096).toNat < wn) : rkF c W wn to R p S = R (p + 1) (W ((c p).toInt % 4096).toNat :: S) := by
  unfold rkF
  rw [if_neg (by omega), if_neg (by omega), if_pos e, if_pos ⟨hS, hw⟩]
theorem rf_not (hp : p < to) (e : (c p).toInt / 4096 = 2) : rkF c W wn to R p (x :: S) = R (p + 1) ((1 - x) :: S) := by
  unfold rkF
  rw [if_neg (by omega), if_neg (by omega), if_neg (by omega)]
  exact if_pos e
theorem rf_so (hp : p < to) (e : (c p).toInt / 4096 = 3) : rkF c W wn to R p (x :: S) = (if x = 0 then R (p + 1) S else if (p : Int) < (c p).toInt % 4096 then R ((c p).toInt % 4096).toNat (x :: S) else none) := by
  unfold rkF
  rw [if_neg (by omega), if_neg (by omega), if_neg (by omega)]
  exact (if_neg (by omega)).trans (if_pos e)
theorem rf_un (hp : p < to) (e : (c p).toInt / 4096 = 4) : rkF c W wn to R p (x :: S) = (if x = 0 then (if (p : Int) < (c p).toInt % 4096 then R ((c p).toInt % 4096).toNat (x :: S) else none) else R (p + 1) S) := by
  unfold rkF
  rw [if_neg (by omega), if_neg (by omega), if_neg (by omega)]
  exact (if_neg (by omega)).trans ((if_neg (by omega)).trans (if_pos e))
theorem rf_jn (hp : p < to) (e : (c p).toInt / 4096 = (n : Int)) (h5 : 5 ≤ n) (h12 : n ≤ 12) : rkF c W wn to R p (x :: y :: S) = (match jnV n y x with | none => some none | some v => R (p + 1) (v :: S)) := by
  have e2 : ((c p).toInt / 4096).toNat = n := by omega
  unfold rkF
  rw [if_neg (by omega), if_neg (by omega), if_neg (by omega)]
  refine (if_neg (by omega)).trans ((if_neg (by omega)).trans ((if_neg (by omega)).trans ?_))
  refine (if_pos ⟨by omega, by omega⟩).trans ?_
  rw [e2]
/-! what a run that goes on says -/
theorem ro_end (hp : to ≤ p) (h : rkF c W wn to R p S = some r) : ∃ x, S = [x] ∧ r = some x := by
  unfold rkF at h
  rw [if_pos hp] at h
  cases S with
  | nil => cases h
  | cons x S =>
    cases S with
    | nil => exact ⟨x, rfl, (Option.some.inj h).symm⟩
    | cons y S => cases h
theorem ro_push (hp : p < to) (e : (c p).toInt / 4096 = 0) (h : rkF c W wn to R p S = some r) : S.length < 32 ∧ R (p + 1) ((c p).toInt % 4096 :: S) = some r := by
  unfold rkF at h
  rw [if_neg (by omega), if_pos e] at h
  by_cases hS : S.length < 32
  · rw [if_pos hS] at h; exact ⟨hS, h⟩
  · rw [if_neg hS] at h; cases h
theorem ro_ask (hp : p < to) (e : (c p).toInt / 4096 = 1) (h : rkF c W wn to R p S = some r) : S.length < 32 ∧ ((c p).toInt % 4096).toNat < wn ∧ R (p + 1) (W ((c p).toInt % 4096).toNat :: S) = some r := by
  unfold rkF at h
  rw [if_neg (by omega), if_neg (by omega), if_pos e] at h
  by_cases hS : S.length < 32 ∧ ((c p).toInt % 4096).toNat < wn
  · rw [if_pos hS] at h; exact ⟨hS.1, hS.2, h⟩
  · rw [if_neg hS] at h; cases h
/-- behind push and ask something lies on the stack -/
theorem ro_top (hp : p < to) (e : 2 ≤ (c p).toInt / 4096) (h : rkF c W wn to R p S = some r) : ∃ x S', S = x :: S' := by
  cases S with
  | cons x S => exact ⟨x, S, rfl⟩
  | nil =>
    unfold rkF at h
    rw [if_neg (by omega), if_neg (by omega), if_neg (by omega)] at h
    cases h
theorem ro_two (hp : p < to) (e : 5 ≤ (c p).toInt / 4096) (h : rkF c W wn to R p (x :: S) = some r) : (c p).toInt / 4096 ≤ 12 ∧ ∃ y S', S = y :: S' := by
  unfold rkF at h
  rw [if_neg (by omega), if_neg (by omega), if_neg (by omega)] at h
  have h := ((if_neg (by omega)).trans ((if_neg (by omega)).trans (if_neg (by omega)))).symm.trans h
  cases S with
  | nil => cases h
  | cons y S =>
    refine ⟨?_, y, S, rfl⟩
    by_cases q : 5 ≤ (c p).toInt / 4096 ∧ (c p).toInt / 4096 ≤ 12
    · exact q.2
    · have h := (if_neg q).symm.trans h
      cases h
/-! steps of a run -/
theorem rK_push (hp : p < to) (e : (c p).toInt = (n : Int)) (hn : n < 4096) (hS : S.length < 32) (h : rK c W wn to (p + 1) ((n : Int) :: S) r) : rK c W wn to p S r := by
  obtain ⟨f, h⟩ := h
  have e2 : (c p).toInt % 4096 = (n : Int) := by omega
  exact ⟨f + 1, (rf_push hp (by omega) hS).trans (by rw [e2]; exact h)⟩
theorem rK_ask (hp : p < to) (e : (c p).toInt = 4096 + (n : Int)) (hn : n < 4096) (hw : n < wn) (hS : S.length < 32) (h : rK c W wn to (p + 1) (W n :: S) r) : rK c W wn to p S r := by
  obtain ⟨f, h⟩ := h
  have e2 : ((c p).toInt % 4096).toNat = n := by omega
  exact ⟨f + 1, (rf_ask hp (by omega) hS (by omega)).trans (by rw [e2]; exact h)⟩
theorem rK_not (hp : p < to) (e : (c p).toInt = 8192) (h : rK c W wn to (p + 1) ((1 - x) :: S) r) : rK c W wn to p (x :: S) r := by
  obtain ⟨f, h⟩ := h
  exact ⟨f + 1, (rf_not hp (by omega)).trans h⟩
theorem rK_so (hp : p < to) (e : (c p).toInt = 12288 + (b : Int)) (hb : b < 4096) (hpb : p < b) (h0 : x = 0 → rK c W wn to (p + 1) S r) (h1 : ¬ x = 0 → rK c W wn to b (x :: S) r) : rK c W wn to p (x :: S) r := by
  have e2 : ((c p).toInt % 4096).toNat = b := by omega
  by_cases q : x = 0
  · obtain ⟨f, h⟩ := h0 q
    exact ⟨f + 1, (rf_so hp (by omega)).trans (by rw [if_pos q]; exact h)⟩
  · obtain ⟨f, h⟩ := h1 q
    exact ⟨f + 1, (rf_so hp (by omega)).trans (by rw [if_neg q, if_pos (by omega), e2]; exact h)⟩
theorem rK_un (hp : p < to) (e : (c p).toInt = 16384 + (b : Int)) (hb : b < 4096) (hpb : p < b) (h0 : x = 0 → rK c W wn to b (x :: S) r) (h1 : ¬ x = 0 → rK c W wn to (p + 1) S r) : rK c W wn to p (x :: S) r := by
  have e2 : ((c p).toInt % 4096).toNat = b := by omega
  by_cases q : x = 0
  · obtain ⟨f, h⟩ := h0 q
    exact ⟨f + 1, (rf_un hp (by omega)).trans (by rw [if_pos q, if_pos (by omega), e2]; exact h)⟩
  · obtain ⟨f, h⟩ := h1 q
    exact ⟨f + 1, (rf_un hp (by omega)).trans (by rw [if_neg q]; exact h)⟩
/-- what goes on behind a value: nothing, if it is broken -/
def rGo (c : Nat → Int32) (W : Nat → Int) (wn to p : Nat) (S : List Int) (r z : Option Int) : Prop :=
  match z with
  | none => r = none
  | some x => rK c W wn to p (x :: S) r
theorem rK_jn (hp : p < to) (e : (c p).toInt = 4096 * (n : Int)) (h5 : 5 ≤ n) (h12 : n ≤ 12) (h : rGo c W wn to (p + 1) S r (jnV n y x)) : rK c W wn to p (x :: y :: S) r := by
  cases hj : jnV n y x with
  | none =>
    rw [hj] at h
    exact ⟨1, (rf_jn (R := rk c W wn to 0) hp (by omega) h5 h12).trans (by rw [hj]; exact congrArg some h.symm)⟩
  | some v =>
    rw [hj] at h
    obtain ⟨f, h⟩ := h
    exact ⟨f + 1, (rf_jn hp (by omega) h5 h12).trans (by rw [hj]; exact h)⟩
/-- the code from a to b leaves the value v on the stack, whatever stands behind b; nd: how high the stack grows -/
def rnP (c : Nat → Int32) (wn a b nd : Nat) (v : eV) : Prop := a < b ∧ ∀ c' : Nat → Int32, (∀ p, a ≤ p → p < b → c' p = c p) → ∀ (W : Nat → Int) (to : Nat) (S : List Int) (r : Option Int), b ≤ to → S.length + nd ≤ 32 → rGo c' W wn to b S r (v W) → rK c' W wn to a S r
theorem rn_cg (h : rnP c wn a b nd v) (e : ∀ p, a ≤ p → p < b → c' p = c p) : rnP c' wn a b nd v := ⟨h.1, fun c2 h2 => h.2 c2 (fun p h3 h4 => (h2 p h3 h4).trans (e p h3 h4))⟩
theorem rn_w (h : rnP c wn a b nd v) (q : nd ≤ nd') : rnP c wn a b nd' v := ⟨h.1, fun c2 h2 W to S r h3 h4 => h.2 c2 h2 W to S r h3 (by omega)⟩
theorem rn_push (e : (c a).toInt = (n : Int)) (hn : n < 4096) : rnP c wn a (a + 1) 1 (fun _ => some (n : Int)) := by
  refine ⟨by omega, fun c' hc W to S r h3 h4 h => rK_push (by omega) (by rw [hc a (by omega) (by omega)]; exact e) hn (by omega) h⟩
theorem rn_ask (e : (c a).toInt = 4096 + (n : Int)) (hn : n < 4096) (hw : n < wn) : rnP c wn a (a + 1) 1 (fun W => some (W n)) := by
  refine ⟨by omega, fun c' hc W to S r h3 h4 h => rK_ask (by omega) (by rw [hc a (by omega) (by omega)]; exact e) hn hw (by omega) h⟩
theorem rn_not (h : rnP c wn a b nd v) (e : (c b).toInt = 8192) : rnP c wn a (b + 1) nd (ntO v) := by
  refine ⟨by have := h.1; omega, fun c' hc W to S r h3 h4 hr => h.2 c' (fun p h5 h6 => hc p h5 (by omega)) W to S r (by omega) h4 ?_⟩
  have hb := hc b (by have := h.1; omega) (by omega)
  unfold ntO at hr
  cases hv : v W with
  | none => rw [hv] at hr; exact hr
  | some x =>
    rw [hv] at hr
    exact rK_not (by omega) (by rw [hb]; exact e) hr
theorem rn_jn (h : rnP c wn a b nd v) (h2 : rnP c wn b m nd' w) (e : (c m).toInt = 4096 * (n : Int)) (h5 : 5 ≤ n) (h12 : n ≤ 12) (hd : nd ≤ nd' + 1) : rnP c wn a (m + 1) (nd' + 1) (jnO n v w) := by
  have l1 := h.1
  have l2 := h2.1
  refine ⟨by omega, fun c' hc W to S r h3 h4 hr => h.2 c' (fun p h5 h6 => hc p h5 (by omega)) W to S r (by omega) (by omega) ?_⟩
  have hm := hc m (by omega) (by omega)
  unfold jnO at hr
  cases hv : v W with
  | none => rw [hv] at hr; exact hr
  | some x =>
    rw [hv] at hr
    refine h2.2 c' (fun p h5 h6 => hc p (by omega) (by omega)) W to (x :: S) r (by omega) (by show S.length + 1 + nd' ≤ 32; omega) ?_
    cases hw : w W with
    | none =>
      have hr : rGo c' W wn to (m + 1) S r ((w W).bind fun y => jnV n x y) := hr
      rw [hw] at hr; exact hr
    | some y =>
      have hr : rGo c' W wn to (m + 1) S r ((w W).bind fun y => jnV n x y) := hr
      rw [hw] at hr
      exact rK_jn (by omega) (by rw [hm]; exact e) h5 h12 hr
theorem rn_and (h : rnP c wn a q nd v) (e : (c q).toInt = 16384 + (b : Int)) (hb : b < 4096) (h2 : rnP c wn (q + 1) b nd w) : rnP c wn a b nd (anO v w) := by
  have l1 := h.1
  have l2 := h2.1
  refine ⟨by omega, fun c' hc W to S r h3 h4 hr => h.2 c' (fun p h5 h6 => hc p h5 (by omega)) W to S r (by omega) (by omega) ?_⟩
  have hm := hc q (by omega) (by omega)
  unfold anO at hr
  cases hv : v W with
  | none => rw [hv] at hr; exact hr
  | some x =>
    rw [hv] at hr
    have hr : rGo c' W wn to b S r (if x = 0 then some x else w W) := hr
    refine rK_un (b := b) (by omega) (by rw [hm]; exact e) hb (by omega) (fun x0 => ?_) (fun x0 => ?_)
    · rw [if_pos x0] at hr; exact hr
    · rw [if_neg x0] at hr
      exact h2.2 c' (fun p h5 h6 => hc p (by omega) (by omega)) W to S r (by omega) h4 hr
theorem rn_or (h : rnP c wn a q nd v) (e : (c q).toInt = 12288 + (b : Int)) (hb : b < 4096) (h2 : rnP c wn (q + 1) b nd w) : rnP c wn a b nd (orO v w) := by
  have l1 := h.1
  have l2 := h2.1
  refine ⟨by omega, fun c' hc W to S r h3 h4 hr => h.2 c' (fun p h5 h6 => hc p h5 (by omega)) W to S r (by omega) (by omega) ?_⟩
  have hm := hc q (by omega) (by omega)
  unfold orO at hr
  cases hv : v W with
  | none => rw [hv] at hr; exact hr
  | some x =>
    rw [hv] at hr
    have hr : rGo c' W wn to b S r (if x = 0 then w W else some x) := hr
    refine rK_so (b := b) (by omega) (by rw [hm]; exact e) hb (by omega) (fun x0 => ?_) (fun x0 => ?_)
    · rw [if_pos x0] at hr
      exact h2.2 c' (fun p h5 h6 => hc p (by omega) (by omega)) W to S r (by omega) h4 hr
    · rw [if_neg x0] at hr; exact hr
/-- a piece of a clause: its value (1, if it was not written) -/
def pcP (c : Nat → Int32) (wn a b : Nat) (v : eV) : Prop := (a = b ∧ v = e1) ∨ rnP c wn a b 20 v
theorem pc_cg (h : pcP c wn a b v) (e : ∀ p, a ≤ p → p < b → c' p = c p) : pcP c' wn a b v := h.imp id (fun h => rn_cg h e)
/-- a piece that is written: what its run tells -/
theorem pc_run (h : pcP c wn a b v) (hab : a < b) (W : Nat → Int) : rK c W wn b a [] (v W) := by
  rcases h with h | h
  · omega
  · refine h.2 c (fun _ _ _ => rfl) W b [] (v W) (Nat.le_refl b) (by decide) ?_
    cases hv : v W with
    | none => exact rfl
    | some x => exact ⟨1, rf_end (R := rk c W wn b 0) (Nat.le_refl b)⟩
end RK
/-! clauses: from i to j; hd its head's token, tm how often, v1 v2 its sums, v3 its test -/
def ifE (o : Bool) (T : Nat → Int32) (i j : Nat) (v : eV) : Prop := (T i = 2003 ∧ eG o T 8 3 (i + 1) e1 j v) ∨ (¬ T i = 2003 ∧ j = i ∧ v = e1)
def tmE (T : Nat → Int32) (i j : Nat) (tm : Int32) : Prop := (T i = 2023 ∧ pInr (T (i + 1)) 1 20 = true ∧ tm = T (i + 1) ∧ j = i + 2) ∨ (¬ T i = 2023 ∧ tm = 1 ∧ j = i)
def clE (o : Bool) (T : Nat → Int32) (i j : Nat) (hd tm : Int32) (v1 v2 v3 : eV) : Prop := hd = T i ∧
  if o = true then ((T i = 2018 ∧ ∃ m m' m2, eG o T 8 0 (i + 1) e1 m v1 ∧ T m = 2022 ∧ eG o T 8 0 (m + 1) e1 m' v2 ∧ tmE T m' m2 tm ∧ ifE o T m2 j v3)
    ∨ ((T i = 2019 ∨ T i = 2020) ∧ ∃ m m2, eG o T 8 0 (i + 1) e1 m v1 ∧ v2 = e1 ∧ tmE T m m2 tm ∧ ifE o T m2 j v3)
    ∨ (T i = 2021 ∧ ∃ m2, v1 = e1 ∧ v2 = e1 ∧ tmE T (i + 1) m2 tm ∧ ifE o T m2 j v3))
  else tm = 1 ∧ v2 = e1 ∧ (((T i = 2004 ∨ T i = 2005 ∨ T i = 2006) ∧ ∃ m, eG o T 8 0 (i + 1) e1 m v1 ∧ ifE o T m j v3) ∨ (T i = 2007 ∧ v1 = e1 ∧ ifE o T (i + 1) j v3))
/-- a text: how many clauses, where each begins, its head, how often, its values -/
abbrev tE : Type := Nat × (Nat → Nat) × (Nat → Int32) × (Nat → Int32) × (Nat → eV) × (Nat → eV) × (Nat → eV)
def txE (o : Bool) (T : Nat → Int32) (N : Nat) (D : tE) : Prop := 1 ≤ D.1 ∧ D.1 ≤ 12 ∧ D.2.1 0 = 0 ∧ ∀ c, c < D.1 → ∃ j, clE o T (D.2.1 c) j (D.2.2.1 c) (D.2.2.2.1 c) (D.2.2.2.2.1 c) (D.2.2.2.2.2.1 c) (D.2.2.2.2.2.2 c) ∧ ((c + 1 < D.1 ∧ T j = 3059 ∧ D.2.1 (c + 1) = j + 1) ∨ (c + 1 = D.1 ∧ j = N))
/-- what a law's clause tells, if it is of this head and holds -/
def clT (D : tE) (hd : Int32) (W : Nat → Int) (hi : Int) (c : Nat) : Option Int := if D.2.2.1 c = hd ∧ D.2.2.2.2.2.2 c W = some 1 then (D.2.2.2.2.1 c W).bind (fun x => some (max 0 (min hi x))) else none
def lastOf (f : Nat → Option Int) (w : Int) : Nat → Int
  | 0 => w
  | n + 1 => (f n).getD (lastOf f w n)
def lwV (D : tE) (hd : Int32) (W : Nat → Int) (hi w : Int) : Int := lastOf (clT D hd W hi) w D.1
theorem lastOf_s (f : Nat → Option Int) (w : Int) (n : Nat) : lastOf f w (n + 1) = (f n).getD (lastOf f w n) := rfl
/-- nothing behind c tells: it is the last up to c -/
theorem lastOf_n {f : Nat → Option Int} {w : Int} {n c : Nat} (h : c ≤ n) (q : ∀ k, c ≤ k → k < n → f k = none) : lastOf f w n = lastOf f w c := by
  induction h with
  | refl => rfl
  | step h ih => rw [lastOf_s, q _ h (Nat.lt_succ_self _)]; exact ih (fun k h1 h2 => q k h1 (Nat.lt_succ_of_lt h2))
/-! the class's run of code, on its rows of long numbers -/
def enc (r : Option Int) : Int := r.getD (-1000000000000)
def oBd (x : Int) : Prop := -2000000000 ≤ x ∧ x ≤ 2000000000
/-- bounds that grow with the place -/
def oBp (p : Nat) (x : Int) : Prop := -1000000000 - (p : Int) ≤ x ∧ x ≤ 1000000000 + (p : Int)
def sB (p : Nat) (S : List Int) : Prop := ∀ x ∈ S, oBp p x
def wB (W : Nat → Int) : Prop := ∀ n, oBp 0 (W n)
theorem oBp_o {p : Nat} {x : Int} (h : oBp p x) (q : p ≤ 5000) : oBd x := by unfold oBp at h; unfold oBd; omega
theorem oBp_w {p p' : Nat} {x : Int} (h : oBp p x) (q : p ≤ p') : oBp p' x := by unfold oBp at *; omega
theorem sB_w {p p' : Nat} {S : List Int} (h : sB p S) (q : p ≤ p') : sB p' S := fun x hx => oBp_w (h x hx) q
theorem sB_c {p : Nat} {x : Int} {S : List Int} (h : sB p (x :: S)) : oBp p x ∧ sB p S := ⟨h x List.mem_cons_self, fun y hy => h y (List.mem_cons_of_mem _ hy)⟩
theorem sB_i {p : Nat} {x : Int} {S : List Int} (h : oBp p x) (q : sB p S) : sB p (x :: S) := by
  intro y hy
  rcases List.mem_cons.mp hy with e | e
  · rw [e]; exact h
  · exact q y e
theorem bnd_o {x y : Int} (h : bnd x = some y) : oBp 0 y ∧ y = x := by
  unfold bnd at h
  by_cases q : x < -1000000000 ∨ 1000000000 < x
  · rw [if_pos q] at h; cases h
  · rw [if_neg q] at h
    have e := Option.some.inj h
    unfold oBp
    omega
theorem jnV_o {op : Nat} {x y v : Int} (h : jnV op x y = some v) : oBp 0 v := by
  unfold jnV at h
  repeat' split at h
  all_goals first | exact (bnd_o h).1 | (cases h; done) | (have e := Option.some.inj h; rw [← e]; unfold oBp; split <;> omega) | (have e := Option.some.inj h; unfold oBp; omega)
theorem enc_i {r : Option Int} {v : Int} (h : enc r = v) (hv : ¬ v = -1000000000000) : r = some v := by
  cases r with
  | none => exact absurd h.symm hv
  | some x => rw [← h]; rfl
theorem l_add {x y : Int64} (hx : oBd x.toInt) (hy : oBd y.toInt) : (x + y).toInt = x.toInt + y.toInt := by
  unfold oBd at *
  rw [Int64.toInt_add, Int.bmod_eq_of_le] <;> omega
theorem l_sub {x y : Int64} (hx : oBd x.toInt) (hy : oBd y.toInt) : (x - y).toInt = x.toInt - y.toInt := by
  unfold oBd at *
  rw [Int64.toInt_sub, Int.bmod_eq_of_le] <;> omega
theorem l_mulb {x y : Int} (hx : oBd x) (hy : oBd y) : -4000000000000000000 ≤ x * y ∧ x * y ≤ 4000000000000000000 := by
  have h : (x * y).natAbs ≤ 2000000000 * 2000000000 := by
    rw [Int.natAbs_mul]
    unfold oBd at *
    exact Nat.mul_le_mul (by omega) (by omega)
  omega
theorem l_mul {x y : Int64} (hx : oBd x.toInt) (hy : oBd y.toInt) : (x * y).toInt = x.toInt * y.toInt := by
  have := l_mulb hx hy
  rw [Int64.toInt_mul, Int.bmod_eq_of_le] <;> omega
theorem l_divb {x y : Int} (hx : oBd x) : oBd (x.tdiv y) := by
  have h : (x.tdiv y).natAbs ≤ x.natAbs := by
    rw [Int.natAbs_tdiv]
    exact Nat.div_le_self _ _
  unfold oBd at *
  omega
theorem l_div {x y : Int64} (hx : oBd x.toInt) : (x / y).toInt = x.toInt.tdiv y.toInt := by
  have h := l_divb (y := y.toInt) hx
  unfold oBd at h
  rw [Int64.toInt_div, Int.bmod_eq_of_le] <;> omega
theorem l_modb {x y : Int} (hx : oBd x) : oBd (x.tmod y) := by
  have h : (x.tmod y).natAbs ≤ x.natAbs := by
    rw [Int.natAbs_tmod]
    exact Nat.mod_le _ _
  unfold oBd at *
  omega
theorem l_rem {x y : Int64} (hx : oBd x.toInt) (hy : oBd y.toInt) : (x - x / y * y).toInt = x.toInt.tmod y.toInt := by
  have h1 := l_div (y := y) hx
  have h2 := l_divb (y := y.toInt) hx
  have h3 : (x / y * y).toInt = (x / y).toInt * y.toInt := l_mul (by rw [h1]; exact h2) hy
  have h4 : x.toInt.tmod y.toInt = x.toInt - y.toInt * x.toInt.tdiv y.toInt := by have := Int.mul_tdiv_add_tmod x.toInt y.toInt; omega
  have h5 := l_modb (y := y.toInt) hx
  unfold oBd at *
  have h6 : (x / y * y).toInt = x.toInt - x.toInt.tmod y.toInt := by rw [h3, h1, h4, Int.mul_comm]; omega
  rw [Int64.toInt_sub, h6, Int.bmod_eq_of_le] <;> omega
/-- the row holds the stack -/
def stOk (g : Nat → Int64) : List Int → Prop
  | [] => True
  | x :: S => (g S.length).toInt = x ∧ stOk g S
theorem st_up {g : Nat → Int64} {k : Nat} {v : Int64} : ∀ {S : List Int}, S.length ≤ k → stOk g S → stOk (va_up g k v) S
  | [], _, _ => trivial
  | x :: S, hk, h => by
    have hk2 : S.length + 1 ≤ k := hk
    refine ⟨?_, st_up (by omega) h.2⟩
    show (va_up g k v S.length).toInt = x
    unfold va_up
    rw [if_neg (by omega)]
    exact h.1
theorem st_pu {g : Nat → Int64} {v : Int64} {x : Int} {S : List Int} {k : Nat} (hk : k = S.length) (hv : v.toInt = x) (h : stOk g S) : stOk (va_up g k v) (x :: S) := by
  refine ⟨?_, st_up (by omega) h⟩
  show (va_up g k v S.length).toInt = x
  unfold va_up
  rw [if_pos hk.symm]
  exact hv
/-- what joined tells -/
def joP (op x y v : Int) : Prop := 5 ≤ op → op ≤ 12 → oBd x → oBd y → v = enc (jnV op.toNat x y)
theorem enc_nn {r : Option Int} (h : enc r = -1000000000000) (hr : ∀ x, r = some x → oBd x) : r = none := by
  cases r with
  | none => rfl
  | some x =>
    have h1 := hr x rfl
    have h2 : x = -1000000000000 := h
    unfold oBd at h1
    omega
theorem kt_shr12 (x : Int32) : (x >>> ((12 : Int32) &&& 31)).toInt = x.toInt / 4096 := by
  have e := pk_shr x ((12 : Int32) &&& 31) 12 (by decide +kernel)
  rw [e, Int.shiftRight_eq_div_pow]
  rfl
theorem kt_and12 {l h : Int} {x : Int32} (b : kb l x h) (p : 0 ≤ l) : (x &&& 4095).toInt = x.toInt % 4096 := by
  obtain ⟨n, e, hn, hl⟩ := kn_nat b p
  have e1 : nI n &&& 4095 = nI (n % 4096) := by
    apply Int32.toBitVec_inj.mp
    apply BitVec.eq_of_toNat_eq
    have h2 : n < 2 ^ 32 := Nat.lt_trans hl (by decide)
    have h3 : n % 4096 < 2 ^ 32 := Nat.lt_of_le_of_lt (Nat.mod_le _ _) h2
    rw [Int32.toBitVec_and, BitVec.toNat_and, kn_bv h2, kn_bv h3]
    have e : (4095 : Int32).toBitVec.toNat = 2 ^ 12 - 1 := by decide +kernel
    rw [e, Nat.and_two_pow_sub_one_eq_mod]
  rw [e, e1, kn_to (Nat.lt_of_le_of_lt (Nat.mod_le _ _) hl), kn_to hl]
  omega
theorem pc_eq {c : Nat → Int32} {wn a b : Nat} {v : eV} (h : pcP c wn a b v) (q : ¬ a < b) : v = e1 := by
  rcases h with h | h
  · exact h.2
  · exact absurd h.1 q
theorem jo_12 {op : Int32} (n5 : ¬ op = 5) (n6 : ¬ op = 6) (n7 : ¬ op = 7) (n8 : ¬ op = 8) (n9 : ¬ op = 9) (n10 : ¬ op = 10) (n11 : ¬ op = 11) (h5 : 5 ≤ op.toInt) (h12 : op.toInt ≤ 12) : op.toInt.toNat = 12 := by
  have e5 : ¬ op.toInt = 5 := fun e => n5 (Int32.toInt_inj.mp (e.trans (by decide +kernel)))
  have e6 : ¬ op.toInt = 6 := fun e => n6 (Int32.toInt_inj.mp (e.trans (by decide +kernel)))
  have e7 : ¬ op.toInt = 7 := fun e => n7 (Int32.toInt_inj.mp (e.trans (by decide +kernel)))
  have e8 : ¬ op.toInt = 8 := fun e => n8 (Int32.toInt_inj.mp (e.trans (by decide +kernel)))
  have e9 : ¬ op.toInt = 9 := fun e => n9 (Int32.toInt_inj.mp (e.trans (by decide +kernel)))
  have e10 : ¬ op.toInt = 10 := fun e => n10 (Int32.toInt_inj.mp (e.trans (by decide +kernel)))
  have e11 : ¬ op.toInt = 11 := fun e => n11 (Int32.toInt_inj.mp (e.trans (by decide +kernel)))
  omega
theorem jo_b {z : Int} (h : z < -1000000000 ∨ 1000000000 < z) : enc (bnd z) = -1000000000000 := by
  unfold bnd
  rw [if_pos h]; rfl
theorem jo_g {z : Int} (h : -1000000000 ≤ z) (q : z ≤ 1000000000) : enc (bnd z) = z := by
  unfold bnd
  rw [if_neg (by omega)]; rfl
theorem ite_some {p : Prop} {hp : Decidable p} {x : Option (Option Int)} {r : Option Int} (h : (if p then x else none) = some r) : p ∧ x = some r := by
  by_cases q : p
  · rw [if_pos q] at h; exact ⟨q, h⟩
  · rw [if_neg q] at h; cases h
theorem kt_i2l (x : Int32) : x.toInt64.toInt = x.toInt := Int32.toInt_toInt64 x

