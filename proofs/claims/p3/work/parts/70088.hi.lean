/-! images -/
abbrev sX : Type := (Nat → Nat) × (Nat → Int32) × (Nat → Nat → Int32) × xG
def iW (K : Nat → ClassId) : Option sX → va_W
  | none => []
  | some s => sI K s.1 s.2.1 s.2.2.1 s.2.2.2
def iA : Option sX → Option Nat
  | none => none
  | some s => some (s.1 95)
def rOK (K : Nat → ClassId) (tt : va_W) (g : Nat → Option Nat) : Prop := ∀ i, g i = none ∨ ∃ t : tX, tIn K tt t ∧ g i = some (t.1 0)
def iOK (K : Nat → ClassId) (tt : va_W) : Option sX → Prop
  | none => True
  | some s => kb 0 (s.2.1 3040) 10 ∧ rOK K tt (s.2.2.2.2 109)
/-- an image holds what the site had -/
def iF (f : Nat → Int32) : Option sX → Prop
  | none => False
  | some s => s.2.1 3040 = f 32 ∧ s.2.1 3046 = f 38 ∧ s.2.1 3052 = f 44 ∧ s.2.1 3057 = f 49 ∧ s.2.1 3058 = f 50
/-- two images hold the same counts -/
def iS : Option sX → Option sX → Prop
  | none, none => True
  | some s, some t => t.2.1 3040 = s.2.1 3040 ∧ t.2.1 3046 = s.2.1 3046 ∧ t.2.1 3052 = s.2.1 3052 ∧ t.2.1 3057 = s.2.1 3057 ∧ t.2.1 3058 = s.2.1 3058
  | _, _ => False
theorem rOK_w {K : Nat → ClassId} {tt ty : va_W} {g : Nat → Option Nat} (w : ∀ c ∈ tt, c ∈ ty) (h : rOK K tt g) : rOK K ty g := fun i => (h i).imp id (fun ⟨t, h1, h2⟩ => ⟨t, tIn_w w h1, h2⟩)
theorem iOK_w {K : Nat → ClassId} {tt ty : va_W} {i : Option sX} (w : ∀ c ∈ tt, c ∈ ty) (h : iOK K tt i) : iOK K ty i := by
  cases i with
  | none => exact trivial
  | some s => exact ⟨h.1, rOK_w w h.2⟩
def mr (r : Nat → Nat) (s : sX) (k : Nat) : Nat := if k < 95 then r k else s.1 k
def mf (f : Nat → Int32) (s : sX) (j : Nat) : Int32 := if j < 3040 then f j else s.2.1 j
def ma (a : Nat → Nat → Int32) (s : sX) (k : Nat) : Nat → Int32 := if k < 95 then a k else s.2.2.1 k
def mg (g : xG) (s : sX) : xG := (fun k => if k < 95 then g.1 k else s.2.2.2.1 k, fun k => if k < 95 then g.2 k else s.2.2.2.2 k)
theorem xI_m {f : Nat → Int32} {a : Nat → Nat → Int32} {s : sX} (h : xI f a) (hs : kb 0 (s.2.1 3040) 10) : xI (mf f s) (ma a s) := by
  refine ⟨fun i => ?_, fun k i => ?_⟩
  · unfold mf
    by_cases q : i < 3040
    · rw [if_pos q]; exact h.1 i
    · rw [if_neg q]
      by_cases e : i = 3040
      · subst e; exact hs
      · have : xBf i = kAny := by
          unfold xBf
          rw [if_neg (by omega), if_neg (by omega), if_neg (by omega), if_neg (by omega), if_neg (by omega), if_neg (by omega), if_neg (by omega), if_neg e, if_neg (by omega)]
        rw [this]; exact kb_any _
  · unfold ma
    by_cases q : k < 95
    · rw [if_pos q]; exact h.2 k i
    · rw [if_neg q]
      have : xBa k i = kAny := if_neg (by omega)
      rw [this]; exact kb_any _
theorem gOK_m {K : Nat → ClassId} {g : xG} {s : sX} {tt : va_W} (h : gOK K g.2 tt) (hs : rOK K tt (s.2.2.2.2 109)) : gOK K (mg g s).2 tt := by
  intro k i hk
  rcases hk with e | e | e | e
  · subst e; exact h 15 i (Or.inl rfl)
  · subst e; exact h 40 i (Or.inr (Or.inl rfl))
  · subst e; exact h 73 i (Or.inr (Or.inr (Or.inl rfl)))
  · subst e; exact hs i
theorem xX_end {K : Nat → ClassId} {r : Nat → Nat} {f : Nat → Int32} {a : Nat → Nat → Int32} {g : xG} {w tx : va_W} : (xX K r f a g tx ++ w).Perm (xX K r f a g (w ++ tx)) := List.perm_append_comm.trans xX_in
theorem mem_r {A tt : va_W} : ∀ c ∈ tt, c ∈ A ++ tt := fun _ h => List.mem_append_right _ h
theorem mem_rr {A B tt : va_W} : ∀ c ∈ tt, c ∈ A ++ (B ++ tt) := fun _ h => List.mem_append_right _ (List.mem_append_right _ h)
theorem ge2 {x : Int32} (h0 : ¬ x = 0) (h1 : ¬ x = 1) (h : ¬ x < 0) : ¬ x < 2 := by
  have g0 := lv_neT h0 (a := 0) (by decide +kernel)
  have g1 := lv_neT h1 (a := 1) (by decide +kernel)
  rw [Int32.lt_iff_toInt_lt] at *
  have e0 : (0 : Int32).toInt = 0 := by decide +kernel
  have e2 : (2 : Int32).toInt = 2 := by decide +kernel
  omega
theorem no01 {x : Int32} (h0 : ¬ x = 0) (h1 : ¬ x = 1) : ¬ (0 ≤ x.toInt ∧ x.toInt ≤ 1) := by
  have g0 := lv_neT h0 (a := 0) (by decide +kernel)
  have g1 := lv_neT h1 (a := 1) (by decide +kernel)
  omega
def imgP (x v : Int32) (f : Nat → Int32) (i0 i1 j0 j1 : Option sX) : Prop := (v = -1 ∧ ¬ (0 ≤ x.toInt ∧ x.toInt ≤ 1) ∧ j0 = i0 ∧ j1 = i1) ∨ (v = 0 ∧ x = 0 ∧ iF f j0 ∧ j1 = i1) ∨ (v = 0 ∧ x = 1 ∧ j0 = i0 ∧ iF f j1)
def iG (i : Option sX) (f : Nat → Int32) : Prop := match i with
  | none => False
  | some s => f 32 = s.2.1 3040 ∧ f 38 = s.2.1 3046 ∧ f 44 = s.2.1 3052 ∧ f 49 = s.2.1 3057 ∧ f 50 = s.2.1 3058
def bckP (x v : Int32) (f f' : Nat → Int32) (i0 i1 : Option sX) : Prop := (v = -1 ∧ ¬ (0 ≤ x.toInt ∧ x.toInt ≤ 1) ∧ f' 32 = f 32 ∧ f' 38 = f 38 ∧ f' 44 = f 44 ∧ f' 49 = f 49 ∧ f' 50 = f 50) ∨ (v = -2 ∧ ((x = 0 ∧ i0 = none) ∨ (x = 1 ∧ i1 = none)) ∧ f' 32 = f 32 ∧ f' 38 = f 38 ∧ f' 44 = f 44 ∧ f' 49 = f 49 ∧ f' 50 = f 50) ∨ (v = 0 ∧ ((x = 0 ∧ iG i0 f') ∨ (x = 1 ∧ iG i1 f')))
theorem opt_c (i : Option sX) : i = none ∨ ∃ s, i = some s := by
  cases i with
  | none => exact Or.inl rfl
  | some s => exact Or.inr ⟨s, rfl⟩

