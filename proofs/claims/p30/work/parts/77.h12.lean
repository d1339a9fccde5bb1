/-! images -/
abbrev sX : Type := (Nat → Nat) × (Nat → Int32) × (Nat → Nat → Int32) × xG
def iW (K : Nat → ClassId) : Option sX → va_W
  | none => []
  | some s => sI K s.1 s.2.1 s.2.2.1 s.2.2.2
def iA : Option sX → Option Nat
  | none => none
  | some s => some (s.1 95)
def rOK (K : Nat → ClassId) (tt : va_W) (g : Nat → Option Nat) : Prop := ∀ i, g i = none ∨ ∃ t : tX, tIn K tt t ∧ g i = some (t.1 0)
def iOK (K : Nat → ClassId) (tt : va_W) : Option sX → Prop
  | none => True
  | some s => kb 0 (s.2.1 3040) 10 ∧ rOK K tt (s.2.2.2.2 109)
/-- an image holds what the site had -/
def iF (f : Nat → Int32) : Option sX → Prop
  | none => False
  | some s => s.2.1 3040 = f 32 ∧ s.2.1 3046 = f 38 ∧ s.2.1 3052 = f 44 ∧ s.2.1 3057 = f 49 ∧ s.2.1 3058 = f 50
/-- two images hold the same counts -/
def iS : Option sX → Option sX → Prop
  | none, none => True
  | some s, some t => t.2.1 3040 = s.2.1 3040 ∧ t.2.1 3046 = s.2.1 3046 ∧ t.2.1 3052 = s.2.1 3052 ∧ t.2.1 3057 = s.2.1 3057 ∧ t.2.1 3058 = s.2.1 3058
  | _, _ => False
theorem iS_rf (i : Option sX) : iS i i := by
  cases i with
  | none => exact trivial
  | some s => exact ⟨rfl, rfl, rfl, rfl, rfl⟩
theorem rOK_w {K : Nat → ClassId} {tt ty : va_W} {g : Nat → Option Nat} (w : ∀ c ∈ tt, c ∈ ty) (h : rOK K tt g) : rOK K ty g := fun i => (h i).imp id (fun ⟨t, h1, h2⟩ => ⟨t, tIn_w w h1, h2⟩)
theorem iOK_w {K : Nat → ClassId} {tt ty : va_W} {i : Option sX} (w : ∀ c ∈ tt, c ∈ ty) (h : iOK K tt i) : iOK K ty i := by
  cases i with
  | none => exact trivial
  | some s => exact ⟨h.1, rOK_w w h.2⟩
def mr (r : Nat → Nat) (s : sX) (k : Nat) : Nat := if k < 95 then r k else s.1 k
def mf (f : Nat → Int32) (s : sX) (j : Nat) : Int32 := if j < 3040 then f j else s.2.1 j
def ma (a : Nat → Nat → Int32) (s : sX) (k : Nat) : Nat → Int32 := if k < 95 then a k else s.2.2.1 k
def mg (g : xG) (s : sX) : xG := (fun k => if k < 95 then g.1 k else s.2.2.2.1 k, fun k => if k < 95 then g.2 k else s.2.2.2.2 k)
theorem xX_m {K : Nat → ClassId} {r : Nat → Nat} {f : Nat → Int32} {a : Nat → Nat → Int32} {g : xG} {s : sX} {T : va_W} : xX K (mr r s) (mf f s) (ma a s) (mg g s) T = xX K r f a g T := rfl
theorem xX_mr {K : Nat → ClassId} {r : Nat → Nat} {f : Nat → Int32} {a : Nat → Nat → Int32} {g : xG} {s : sX} {T : va_W} : xX K (mr r s) f a g T = xX K r f a g T := rfl
theorem sI_m {K : Nat → ClassId} {r : Nat → Nat} {f : Nat → Int32} {a : Nat → Nat → Int32} {g : xG} {s : sX} : sI K (mr r s) (mf f s) (ma a s) (mg g s) = sI K s.1 s.2.1 s.2.2.1 s.2.2.2 := rfl
theorem sI_mr {K : Nat → ClassId} {r : Nat → Nat} {f : Nat → Int32} {a : Nat → Nat → Int32} {g : xG} {s : sX} : sI K (mr r s) f a g = sI K s.1 f a g := rfl
theorem xI_m {f : Nat → Int32} {a : Nat → Nat → Int32} {s : sX} (h : xI f a) (hs : kb 0 (s.2.1 3040) 10) : xI (mf f s) (ma a s) := by
  refine ⟨fun i => ?_, fun k i => ?_⟩
  · unfold mf
    by_cases q : i < 3040
    · rw [if_pos q]; exact h.1 i
    · rw [if_neg q]
      by_cases e : i = 3040
      · subst e; exact hs
      · have : xBf i = kAny := by
          unfold xBf
          rw [if_neg (by omega), if_neg (by omega), if_neg (by omega), if_neg (by omega), if_neg (by omega), if_neg (by omega), if_neg (by omega), if_neg e, if_neg (by omega)]
        rw [this]; exact kb_any _
  · unfold ma
    by_cases q : k < 95
    · rw [if_pos q]; exact h.2 k i
    · rw [if_neg q]
      have : xBa k i = kAny := if_neg (by omega)
      rw [this]; exact kb_any _
theorem gOK_m {K : Nat → ClassId} {g : xG} {s : sX} {tt : va_W} (h : gOK K g.2 tt) (hs : rOK K tt (s.2.2.2.2 109)) : gOK K (mg g s).2 tt := by
  intro k i hk
  rcases hk with e | e | e | e
  · subst e; exact h 15 i (Or.inl rfl)
  · subst e; exact h 40 i (Or.inr (Or.inl rfl))
  · subst e; exact h 73 i (Or.inr (Or.inr (Or.inl rfl)))
  · subst e; exact hs i
theorem xX_end {K : Nat → ClassId} {r : Nat → Nat} {f : Nat → Int32} {a : Nat → Nat → Int32} {g : xG} {w tx : va_W} : (xX K r f a g tx ++ w).Perm (xX K r f a g (w ++ tx)) := List.perm_append_comm.trans xX_in
theorem mem_r {A tt : va_W} : ∀ c ∈ tt, c ∈ A ++ tt := fun _ h => List.mem_append_right _ h
theorem mem_rr {A B tt : va_W} : ∀ c ∈ tt, c ∈ A ++ (B ++ tt) := fun _ h => List.mem_append_right _ (List.mem_append_right _ h)
theorem ge2 {x : Int32} (h0 : ¬ x = 0) (h1 : ¬ x = 1) (h : ¬ x < 0) : ¬ x < 2 := by
  have g0 := lv_neT h0 (a := 0) (by decide +kernel)
  have g1 := lv_neT h1 (a := 1) (by decide +kernel)
  rw [Int32.lt_iff_toInt_lt] at *
  have e0 : (0 : Int32).toInt = 0 := by decide +kernel
  have e2 : (2 : Int32).toInt = 2 := by decide +kernel
  omega
theorem no01 {x : Int32} (h0 : ¬ x = 0) (h1 : ¬ x = 1) : ¬ (0 ≤ x.toInt ∧ x.toInt ≤ 1) := by
  have g0 := lv_neT h0 (a := 0) (by decide +kernel)
  have g1 := lv_neT h1 (a := 1) (by decide +kernel)
  omega
def imgP (x v : Int32) (f : Nat → Int32) (i0 i1 j0 j1 : Option sX) : Prop := (v = -1 ∧ ¬ (0 ≤ x.toInt ∧ x.toInt ≤ 1) ∧ j0 = i0 ∧ j1 = i1) ∨ (v = 0 ∧ x = 0 ∧ iF f j0 ∧ j1 = i1) ∨ (v = 0 ∧ x = 1 ∧ j0 = i0 ∧ iF f j1)
def iG (i : Option sX) (f : Nat → Int32) : Prop := match i with
  | none => False
  | some s => f 32 = s.2.1 3040 ∧ f 38 = s.2.1 3046 ∧ f 44 = s.2.1 3052 ∧ f 49 = s.2.1 3057 ∧ f 50 = s.2.1 3058
def bckP (x v : Int32) (f f' : Nat → Int32) (i0 i1 : Option sX) : Prop := (v = -1 ∧ ¬ (0 ≤ x.toInt ∧ x.toInt ≤ 1) ∧ f' 32 = f 32 ∧ f' 38 = f 38 ∧ f' 44 = f 44 ∧ f' 49 = f 49 ∧ f' 50 = f 50) ∨ (v = -2 ∧ ((x = 0 ∧ i0 = none) ∨ (x = 1 ∧ i1 = none)) ∧ f' 32 = f 32 ∧ f' 38 = f 38 ∧ f' 44 = f 44 ∧ f' 49 = f 49 ∧ f' 50 = f 50) ∨ (v = 0 ∧ ((x = 0 ∧ iG i0 f') ∨ (x = 1 ∧ iG i1 f')))
theorem opt_c (i : Option sX) : i = none ∨ ∃ s, i = some s := by
  cases i with
  | none => exact Or.inl rfl
  | some s => exact Or.inr ⟨s, rfl⟩
theorem dX11_image_0 : decode cX11_image 0 = .ok (.iload_n 1, 1) := by decide +kernel
theorem dX11_image_1 : decode cX11_image 1 = .ok (.ifCond .lt 8, 3) := by decide +kernel
theorem dX11_image_4 : decode cX11_image 4 = .ok (.iload_n 1, 1) := by decide +kernel
theorem dX11_image_5 : decode cX11_image 5 = .ok (.iconst 2, 1) := by decide +kernel
theorem dX11_image_6 : decode cX11_image 6 = .ok (.if_icmp .lt 9, 3) := by decide +kernel
theorem dX11_image_9 : decode cX11_image 9 = .ok (.aload_n 0, 1) := by decide +kernel
theorem dX11_image_10 : decode cX11_image 10 = .ok (.iconst (-1), 1) := by decide +kernel
theorem dX11_image_11 : decode cX11_image 11 = .ok (.invokevirtual 114, 3) := by decide +kernel
theorem dX11_image_14 : decode cX11_image 14 = .ok (.ireturn, 1) := by decide +kernel
theorem dX11_image_15 : decode cX11_image 15 = .ok (.aload_n 0, 1) := by decide +kernel
theorem dX11_image_16 : decode cX11_image 16 = .ok (.getfield 82, 3) := by decide +kernel
theorem dX11_image_19 : decode cX11_image 19 = .ok (.iload_n 1, 1) := by decide +kernel
theorem dX11_image_20 : decode cX11_image 20 = .ok (.aaload, 1) := by decide +kernel
theorem dX11_image_21 : decode cX11_image 21 = .ok (.ifnonnull 16, 3) := by decide +kernel
theorem dX11_image_24 : decode cX11_image 24 = .ok (.aload_n 0, 1) := by decide +kernel
theorem dX11_image_25 : decode cX11_image 25 = .ok (.getfield 82, 3) := by decide +kernel
theorem dX11_image_28 : decode cX11_image 28 = .ok (.iload_n 1, 1) := by decide +kernel
theorem dX11_image_29 : decode cX11_image 29 = .ok (.new 7, 3) := by decide +kernel
theorem dX11_image_32 : decode cX11_image 32 = .ok (.dup, 1) := by decide +kernel
theorem dX11_image_33 : decode cX11_image 33 = .ok (.invokespecial 9, 3) := by decide +kernel
theorem dX11_image_36 : decode cX11_image 36 = .ok (.aastore, 1) := by decide +kernel
theorem dX11_image_37 : decode cX11_image 37 = .ok (.aload_n 0, 1) := by decide +kernel
theorem dX11_image_38 : decode cX11_image 38 = .ok (.getfield 82, 3) := by decide +kernel
theorem dX11_image_41 : decode cX11_image 41 = .ok (.iload_n 1, 1) := by decide +kernel
theorem dX11_image_42 : decode cX11_image 42 = .ok (.aaload, 1) := by decide +kernel
theorem dX11_image_43 : decode cX11_image 43 = .ok (.aload_n 0, 1) := by decide +kernel
theorem dX11_image_44 : decode cX11_image 44 = .ok (.getfield 10, 3) := by decide +kernel
theorem dX11_image_47 : decode cX11_image 47 = .ok (.invokevirtual 314, 3) := by decide +kernel
theorem dX11_image_50 : decode cX11_image 50 = .ok (.aload_n 0, 1) := by decide +kernel
theorem dX11_image_51 : decode cX11_image 51 = .ok (.iconst 0, 1) := by decide +kernel
theorem dX11_image_52 : decode cX11_image 52 = .ok (.invokevirtual 225, 3) := by decide +kernel
theorem dX11_image_55 : decode cX11_image 55 = .ok (.ireturn, 1) := by decide +kernel
theorem dX11_back_0 : decode cX11_back 0 = .ok (.iload_n 1, 1) := by decide +kernel
theorem dX11_back_1 : decode cX11_back 1 = .ok (.ifCond .lt 8, 3) := by decide +kernel
theorem dX11_back_4 : decode cX11_back 4 = .ok (.iload_n 1, 1) := by decide +kernel
theorem dX11_back_5 : decode cX11_back 5 = .ok (.iconst 2, 1) := by decide +kernel
theorem dX11_back_6 : decode cX11_back 6 = .ok (.if_icmp .lt 9, 3) := by decide +kernel
theorem dX11_back_9 : decode cX11_back 9 = .ok (.aload_n 0, 1) := by decide +kernel
theorem dX11_back_10 : decode cX11_back 10 = .ok (.iconst (-1), 1) := by decide +kernel
theorem dX11_back_11 : decode cX11_back 11 = .ok (.invokevirtual 114, 3) := by decide +kernel
theorem dX11_back_14 : decode cX11_back 14 = .ok (.ireturn, 1) := by decide +kernel
theorem dX11_back_15 : decode cX11_back 15 = .ok (.aload_n 0, 1) := by decide +kernel
theorem dX11_back_16 : decode cX11_back 16 = .ok (.getfield 82, 3) := by decide +kernel
theorem dX11_back_19 : decode cX11_back 19 = .ok (.iload_n 1, 1) := by decide +kernel
theorem dX11_back_20 : decode cX11_back 20 = .ok (.aaload, 1) := by decide +kernel
theorem dX11_back_21 : decode cX11_back 21 = .ok (.ifnonnull 10, 3) := by decide +kernel
theorem dX11_back_24 : decode cX11_back 24 = .ok (.aload_n 0, 1) := by decide +kernel
theorem dX11_back_25 : decode cX11_back 25 = .ok (.bipush (-2), 2) := by decide +kernel
theorem dX11_back_27 : decode cX11_back 27 = .ok (.invokevirtual 114, 3) := by decide +kernel
theorem dX11_back_30 : decode cX11_back 30 = .ok (.ireturn, 1) := by decide +kernel
theorem dX11_back_31 : decode cX11_back 31 = .ok (.aload_n 0, 1) := by decide +kernel
theorem dX11_back_32 : decode cX11_back 32 = .ok (.getfield 10, 3) := by decide +kernel
theorem dX11_back_35 : decode cX11_back 35 = .ok (.aload_n 0, 1) := by decide +kernel
theorem dX11_back_36 : decode cX11_back 36 = .ok (.getfield 82, 3) := by decide +kernel
theorem dX11_back_39 : decode cX11_back 39 = .ok (.iload_n 1, 1) := by decide +kernel
theorem dX11_back_40 : decode cX11_back 40 = .ok (.aaload, 1) := by decide +kernel
theorem dX11_back_41 : decode cX11_back 41 = .ok (.invokevirtual 314, 3) := by decide +kernel
theorem dX11_back_44 : decode cX11_back 44 = .ok (.aload_n 0, 1) := by decide +kernel
theorem dX11_back_45 : decode cX11_back 45 = .ok (.getfield 19, 3) := by decide +kernel
theorem dX11_back_48 : decode cX11_back 48 = .ok (.invokevirtual 118, 3) := by decide +kernel
theorem dX11_back_51 : decode cX11_back 51 = .ok (.aload_n 0, 1) := by decide +kernel
theorem dX11_back_52 : decode cX11_back 52 = .ok (.iconst 0, 1) := by decide +kernel
theorem dX11_back_53 : decode cX11_back 53 = .ok (.invokevirtual 121, 3) := by decide +kernel
theorem dX11_back_56 : decode cX11_back 56 = .ok (.ireturn, 1) := by decide +kernel
theorem wt5_141 : Cond.methodLink RX11 314 yX7_copyFrom ∈ kG := kt5 141 rfl rfl
set_option maxHeartbeats 4000000 in
set_option maxRecDepth 100000 in
theorem x_img_t0 {p : Program} {e : Env} {s : State} {m : MethodId} {below : List Frame} {meth : Method} {c : Code} {A : Nat → Prop} (l : Launch) {D : va_G} {K : Nat → ClassId} {r : Nat → Nat} {f0 : Nat → Int32} {a0 : Nat → Nat → Int32} (hx : p.tables.exec = Jvm.exec) (hb : c.code = cX11_image) (hr : meth.sig.returnType = some .int) (hml : c.maxLocals = 2) (hown : s.vm.findClass RX11 = some m.cls) (hlocks : meth.locks = false) (hK : va_K D vwCl (tysK K) s) (hA : ∀ q, s.heap.size ≤ q → A q) (hV : xE K A s s.heap) {f : Nat → Int32} {a : Nat → Nat → Int32} {g : xG} {i0 i1 : Option sX} {tt : va_W} {sx : sX} {x : Int32} (ex : x = 0) (hg : ∀ w ∈ kG, w.before ([.ref (r 0), .int x] : List Value).toArray s = true) (hI : xI f a) (hG : gOK K g.2 tt) (h0 : kb 0 (sx.2.1 3040) 10) (h1 : rOK K tt (sx.2.2.2.2 109)) (ho : iOK K tt i1) (hgk : g.2 92 0 = some (sx.1 95)) (hgo : g.2 92 1 = iA i1) (hF : ∀ k, [12, 13, 14, 32, 38, 44, 49, 50, 832, 838, 844, 849, 850].contains k = true → f k = f0 k) (hA93 : a 93 = a0 93) {H : Heap} {locs : List Loc} {ls : Array Slot} (hP : va_P D vwCl (xX K r f a g (sI K sx.1 sx.2.1 sx.2.2.1 sx.2.2.2 ++ (iW K i1 ++ tt))) H) (hD : va_D A (xX K r f a g (sI K sx.1 sx.2.1 sx.2.2.1 sx.2.2.2 ++ (iW K i1 ++ tt)))) (hS : va_S A s.heap H locs) (hl : lv_has ls 2 [(0, .ref (r 0)), (1, .int 0)]) : W p l e (rmD 8 21 197) s m ([.ref (r 0), .int x] : List Value).toArray below meth c H locs 21 197 (kQi D (tysK K) (fun v (u : xS × Option sX × Option sX) => xI u.1.1 u.1.2.1 ∧ gOK K u.1.2.2.2 tt ∧ iOK K tt u.2.1 ∧ iOK K tt u.2.2 ∧ u.1.2.2.2 92 0 = iA u.2.1 ∧ u.1.2.2.2 92 1 = iA u.2.2 ∧ (∀ k, [12, 13, 14, 32, 38, 44, 49, 50, 832, 838, 844, 849, 850].contains k = true → u.1.1 k = f0 k) ∧ u.1.2.1 93 = a0 93 ∧ imgP x v f0 i0 i1 u.2.1 u.2.2) (fun u => xX K r u.1.1 u.1.2.1 u.1.2.2 (iW K u.2.1 ++ (iW K u.2.2 ++ tt))) A below ([.ref (r 0), .int x] : List Value).toArray s 21 197) (F0 m 37 ls []) := by
  refine lv_aload_n hx hb dX11_image_37 rfl (lv_at hl 0 rfl) ?_
  refine va_get (D := D) (ci := 11) (v := .ref (r 92)) (C := RX11) (T := TX11) (N := 17) hx hb hg inC11 hown hK hP 0 rfl rfl 9 (by decide) (hg _ wt2_195) (fun _ h9 => h9) rfl dX11_image_38 ?_
  refine lv_iload_n hx hb dX11_image_41 rfl (lv_at hl 1 rfl) ?_
  refine va_aldq hx hb hK hP 92 4 rfl rfl (k_in (by decide +kernel)) dX11_image_42 ?_
  rw [cl_0]
  refine k_tops hgk ?_
  refine lv_aload_n hx hb dX11_image_43 rfl (lv_at hl 0 rfl) ?_
  refine va_get (D := D) (ci := 11) (v := .ref (r 1)) (C := RX11) (T := TX11) (N := 17) hx hb hg inC11 hown hK hP 0 rfl rfl 0 (by decide) (hg _ wt2_186) (fun _ h9 => h9) rfl dX11_image_44 ?_
  have hP : va_P D vwCl (xX K (mr r sx) (mf f sx) (ma a sx) (mg g sx) (sI K (mr r sx) (mf f sx) (ma a sx) (mg g sx) ++ (iW K i1 ++ tt))) H := hP
  have hD : va_D A (xX K (mr r sx) (mf f sx) (ma a sx) (mg g sx) (sI K (mr r sx) (mf f sx) (ma a sx) (mg g sx) ++ (iW K i1 ++ tt))) := hD
  refine kVG.callW (As := [.ref (r 1)]) (rest := []) ⟨hx, hb, hml, hown, hg⟩ (x_7_copyFromI l (mr r sx) (mf f sx) (ma a sx) (mg g sx) (iW K i1 ++ tt) tt mem_r (xI_m hI h0) (gOK_m hG h1)) (cwV 1 hg (kgV wt5_141 wt4_80 wt4_81 wt1_2 wt4_82) rfl rfl rfl (by decide +kernel) ⟨by decide, by decide⟩) hV hK hP hD hS hA 95 7 rfl rfl rfl hl.1 rfl (Nat.le_of_ble_eq_true rfl) dX11_image_47 ⟨by decide, by decide⟩ (fun u1 H locs h1 hP hD hS => ?_)
  obtain ⟨f1, a1, g1⟩ := u1
  obtain ⟨hI1, hG1, hE1, hp1, hp2, hp3, hp4, hp5⟩ := h1
  have hP : va_P D vwCl (xX K r f1 a1 g1 (sI K sx.1 f1 a1 g1 ++ (iW K i1 ++ tt))) H := hP
  have hD : va_D A (xX K r f1 a1 g1 (sI K sx.1 f1 a1 g1 ++ (iW K i1 ++ tt))) := hD
  refine lv_aload_n hx hb dX11_image_50 rfl (lv_at hl 0 rfl) ?_
  refine lv_iconst (v := 0) hx hb dX11_image_51 (by decide) ?_
  refine kIG.callW (As := [.int 0]) (rest := []) ⟨hx, hb, hml, hown, hg⟩ (x_11_agree l r f1 a1 g1 (sI K sx.1 f1 a1 g1 ++ (iW K i1 ++ tt)) tt mem_rr hI1 hG1 0) (cwV 1 hg (kgV wt3_27 wt3_29 wp1_2 wt1_1 wt3_30) rfl rfl rfl (by decide +kernel) ⟨by decide, by decide⟩) hV hK hP hD hS hA 0 11 rfl rfl rfl hl.1 rfl (Nat.le_of_ble_eq_true rfl) dX11_image_52 ⟨by decide, by decide⟩ (fun v2 u2 H locs h2 hP hD hS => ?_)
  obtain ⟨f2, a2, g2⟩ := u2
  obtain ⟨-, hI2, hG2, hE2, hv2⟩ := h2
  refine k_top (z := 0) hv2 ?_
  have hP : va_P D vwCl (xX K r f2 a2 g2 (sI K sx.1 f1 a1 g1 ++ (iW K i1 ++ tt))) H := hP
  have hD : va_D A (xX K r f2 a2 g2 (sI K sx.1 f1 a1 g1 ++ (iW K i1 ++ tt))) := hD
  have hTL : ∀ k, [12, 13, 14, 32, 38, 44, 49, 50, 832, 838, 844, 849, 850].contains k = true → f2 k = f0 k := by
    intro k hk
    refine (show f2 k = f1 k from hE2.1 k hk).trans ((show f1 k = mf f sx k from hE1.1 k hk).trans (Eq.trans ?_ (hF k hk)))
    have hk3 : k < 3040 := by
      have hk2 := List.contains_iff_mem.mp hk
      simp only [List.mem_cons, List.not_mem_nil, or_false] at hk2
      omega
    exact if_pos hk3
  have h93 : a2 93 = a0 93 := hE2.2.1.trans (hE1.2.1.trans hA93)
  have hq92 : g2.2 92 = g.2 92 := hE2.2.2.trans hE1.2.2
  have hs1 : iOK K tt (some (sx.1, f1, a1, g1)) := ⟨fI_at hI1.1 3040 (by decide) (by decide), fun i => hG1 109 i (Or.inr (Or.inr (Or.inr rfl)))⟩
  have hfi : iF f0 (some (sx.1, f1, a1, g1)) := ⟨hp1.trans (hF 32 rfl), hp2.trans (hF 38 rfl), hp3.trans (hF 44 rfl), hp4.trans (hF 49 rfl), hp5.trans (hF 50 rfl)⟩
  exact kI_ret (v := 0) hx hb hr hlocks rfl hK hS dX11_image_55 ((f2, a2, g2), some (sx.1, f1, a1, g1), i1) hP hD ⟨hI2, hG2, hs1, ho, by rw [hq92]; exact hgk, by rw [hq92]; exact hgo, hTL, h93, Or.inr (Or.inl ⟨rfl, ex, hfi, rfl⟩)⟩
set_option maxHeartbeats 4000000 in
set_option maxRecDepth 100000 in
theorem x_img_t1 {p : Program} {e : Env} {s : State} {m : MethodId} {below : List Frame} {meth : Method} {c : Code} {A : Nat → Prop} (l : Launch) {D : va_G} {K : Nat → ClassId} {r : Nat → Nat} {f0 : Nat → Int32} {a0 : Nat → Nat → Int32} (hx : p.tables.exec = Jvm.exec) (hb : c.code = cX11_image) (hr : meth.sig.returnType = some .int) (hml : c.maxLocals = 2) (hown : s.vm.findClass RX11 = some m.cls) (hlocks : meth.locks = false) (hK : va_K D vwCl (tysK K) s) (hA : ∀ q, s.heap.size ≤ q → A q) (hV : xE K A s s.heap) {f : Nat → Int32} {a : Nat → Nat → Int32} {g : xG} {i0 i1 : Option sX} {tt : va_W} {sx : sX} {x : Int32} (ex : x = 1) (hg : ∀ w ∈ kG, w.before ([.ref (r 0), .int x] : List Value).toArray s = true) (hI : xI f a) (hG : gOK K g.2 tt) (h0 : kb 0 (sx.2.1 3040) 10) (h1 : rOK K tt (sx.2.2.2.2 109)) (ho : iOK K tt i0) (hgk : g.2 92 1 = some (sx.1 95)) (hgo : g.2 92 0 = iA i0) (hF : ∀ k, [12, 13, 14, 32, 38, 44, 49, 50, 832, 838, 844, 849, 850].contains k = true → f k = f0 k) (hA93 : a 93 = a0 93) {H : Heap} {locs : List Loc} {ls : Array Slot} (hP : va_P D vwCl (xX K r f a g (sI K sx.1 sx.2.1 sx.2.2.1 sx.2.2.2 ++ (iW K i0 ++ tt))) H) (hD : va_D A (xX K r f a g (sI K sx.1 sx.2.1 sx.2.2.1 sx.2.2.2 ++ (iW K i0 ++ tt)))) (hS : va_S A s.heap H locs) (hl : lv_has ls 2 [(0, .ref (r 0)), (1, .int 1)]) : W p l e (rmD 8 21 197) s m ([.ref (r 0), .int x] : List Value).toArray below meth c H locs 21 197 (kQi D (tysK K) (fun v (u : xS × Option sX × Option sX) => xI u.1.1 u.1.2.1 ∧ gOK K u.1.2.2.2 tt ∧ iOK K tt u.2.1 ∧ iOK K tt u.2.2 ∧ u.1.2.2.2 92 0 = iA u.2.1 ∧ u.1.2.2.2 92 1 = iA u.2.2 ∧ (∀ k, [12, 13, 14, 32, 38, 44, 49, 50, 832, 838, 844, 849, 850].contains k = true → u.1.1 k = f0 k) ∧ u.1.2.1 93 = a0 93 ∧ imgP x v f0 i0 i1 u.2.1 u.2.2) (fun u => xX K r u.1.1 u.1.2.1 u.1.2.2 (iW K u.2.1 ++ (iW K u.2.2 ++ tt))) A below ([.ref (r 0), .int x] : List Value).toArray s 21 197) (F0 m 37 ls []) := by
  refine lv_aload_n hx hb dX11_image_37 rfl (lv_at hl 0 rfl) ?_
  refine va_get (D := D) (ci := 11) (v := .ref (r 92)) (C := RX11) (T := TX11) (N := 17) hx hb hg inC11 hown hK hP 0 rfl rfl 9 (by decide) (hg _ wt2_195) (fun _ h9 => h9) rfl dX11_image_38 ?_
  refine lv_iload_n hx hb dX11_image_41 rfl (lv_at hl 1 rfl) ?_
  refine va_aldq hx hb hK hP 92 4 rfl rfl (k_in (by decide +kernel)) dX11_image_42 ?_
  rw [cl_1]
  refine k_tops hgk ?_
  refine lv_aload_n hx hb dX11_image_43 rfl (lv_at hl 0 rfl) ?_
  refine va_get (D := D) (ci := 11) (v := .ref (r 1)) (C := RX11) (T := TX11) (N := 17) hx hb hg inC11 hown hK hP 0 rfl rfl 0 (by decide) (hg _ wt2_186) (fun _ h9 => h9) rfl dX11_image_44 ?_
  have hP : va_P D vwCl (xX K (mr r sx) (mf f sx) (ma a sx) (mg g sx) (sI K (mr r sx) (mf f sx) (ma a sx) (mg g sx) ++ (iW K i0 ++ tt))) H := hP
  have hD : va_D A (xX K (mr r sx) (mf f sx) (ma a sx) (mg g sx) (sI K (mr r sx) (mf f sx) (ma a sx) (mg g sx) ++ (iW K i0 ++ tt))) := hD
  refine kVG.callW (As := [.ref (r 1)]) (rest := []) ⟨hx, hb, hml, hown, hg⟩ (x_7_copyFromI l (mr r sx) (mf f sx) (ma a sx) (mg g sx) (iW K i0 ++ tt) tt mem_r (xI_m hI h0) (gOK_m hG h1)) (cwV 1 hg (kgV wt5_141 wt4_80 wt4_81 wt1_2 wt4_82) rfl rfl rfl (by decide +kernel) ⟨by decide, by decide⟩) hV hK hP hD hS hA 95 7 rfl rfl rfl hl.1 rfl (Nat.le_of_ble_eq_true rfl) dX11_image_47 ⟨by decide, by decide⟩ (fun u1 H locs h1 hP hD hS => ?_)
  obtain ⟨f1, a1, g1⟩ := u1
  obtain ⟨hI1, hG1, hE1, hp1, hp2, hp3, hp4, hp5⟩ := h1
  have hP : va_P D vwCl (xX K r f1 a1 g1 (sI K sx.1 f1 a1 g1 ++ (iW K i0 ++ tt))) H := hP
  have hD : va_D A (xX K r f1 a1 g1 (sI K sx.1 f1 a1 g1 ++ (iW K i0 ++ tt))) := hD
  refine lv_aload_n hx hb dX11_image_50 rfl (lv_at hl 0 rfl) ?_
  refine lv_iconst (v := 0) hx hb dX11_image_51 (by decide) ?_
  refine kIG.callW (As := [.int 0]) (rest := []) ⟨hx, hb, hml, hown, hg⟩ (x_11_agree l r f1 a1 g1 (sI K sx.1 f1 a1 g1 ++ (iW K i0 ++ tt)) tt mem_rr hI1 hG1 0) (cwV 1 hg (kgV wt3_27 wt3_29 wp1_2 wt1_1 wt3_30) rfl rfl rfl (by decide +kernel) ⟨by decide, by decide⟩) hV hK hP hD hS hA 0 11 rfl rfl rfl hl.1 rfl (Nat.le_of_ble_eq_true rfl) dX11_image_52 ⟨by decide, by decide⟩ (fun v2 u2 H locs h2 hP hD hS => ?_)
  obtain ⟨f2, a2, g2⟩ := u2
  obtain ⟨-, hI2, hG2, hE2, hv2⟩ := h2
  refine k_top (z := 0) hv2 ?_
  have hP : va_P D vwCl (xX K r f2 a2 g2 (sI K sx.1 f1 a1 g1 ++ (iW K i0 ++ tt))) H := hP
  have hD : va_D A (xX K r f2 a2 g2 (sI K sx.1 f1 a1 g1 ++ (iW K i0 ++ tt))) := hD
  have hTL : ∀ k, [12, 13, 14, 32, 38, 44, 49, 50, 832, 838, 844, 849, 850].contains k = true → f2 k = f0 k := by
    intro k hk
    refine (show f2 k = f1 k from hE2.1 k hk).trans ((show f1 k = mf f sx k from hE1.1 k hk).trans (Eq.trans ?_ (hF k hk)))
    have hk3 : k < 3040 := by
      have hk2 := List.contains_iff_mem.mp hk
      simp only [List.mem_cons, List.not_mem_nil, or_false] at hk2
      omega
    exact if_pos hk3
  have h93 : a2 93 = a0 93 := hE2.2.1.trans (hE1.2.1.trans hA93)
  have hq92 : g2.2 92 = g.2 92 := hE2.2.2.trans hE1.2.2
  have hs1 : iOK K tt (some (sx.1, f1, a1, g1)) := ⟨fI_at hI1.1 3040 (by decide) (by decide), fun i => hG1 109 i (Or.inr (Or.inr (Or.inr rfl)))⟩
  have hfi : iF f0 (some (sx.1, f1, a1, g1)) := ⟨hp1.trans (hF 32 rfl), hp2.trans (hF 38 rfl), hp3.trans (hF 44 rfl), hp4.trans (hF 49 rfl), hp5.trans (hF 50 rfl)⟩
  have hpm : (xX K r f2 a2 g2 (sI K sx.1 f1 a1 g1 ++ (iW K i0 ++ tt))).Perm (xX K r f2 a2 g2 (iW K i0 ++ (sI K sx.1 f1 a1 g1 ++ tt))) := xX_pm (List.perm_append_comm_assoc _ _ _)
  exact kI_ret (v := 0) hx hb hr hlocks rfl hK hS dX11_image_55 ((f2, a2, g2), i0, some (sx.1, f1, a1, g1)) (va_P_pm hpm hP) (va_D_pm hpm hD) ⟨hI2, hG2, ho, hs1, by rw [hq92]; exact hgo, by rw [hq92]; exact hgk, hTL, h93, Or.inr (Or.inr ⟨rfl, ex, rfl, hfi⟩)⟩
set_option maxHeartbeats 4000000 in
set_option maxRecDepth 100000 in
theorem x_11_image (l : Launch) {D : va_G} {K : Nat → ClassId} (r : Nat → Nat) (f0 : Nat → Int32) (a0 : Nat → Nat → Int32) (g : xG) (i0 i1 : Option sX) (tt : va_W) (hI : xI f0 a0) (hG : gOK K g.2 tt) (h0 : iOK K tt i0) (h1 : iOK K tt i1) (hg0 : g.2 92 0 = iA i0) (hg1 : g.2 92 1 = iA i1) (x : Int32) : kIG l yX11_image (Cond.code yX11_image cX11_image 2 (some .int) :: kG) (rmD 8 21 197) D K [.ref (r 0), .int x] (xX K r f0 a0 g (iW K i0 ++ (iW K i1 ++ tt))) (fun v (u : xS × Option sX × Option sX) => xI u.1.1 u.1.2.1 ∧ gOK K u.1.2.2.2 tt ∧ iOK K tt u.2.1 ∧ iOK K tt u.2.2 ∧ u.1.2.2.2 92 0 = iA u.2.1 ∧ u.1.2.2.2 92 1 = iA u.2.2 ∧ (∀ k, [12, 13, 14, 32, 38, 44, 49, 50, 832, 838, 844, 849, 850].contains k = true → u.1.1 k = f0 k) ∧ u.1.2.1 93 = a0 93 ∧ imgP x v f0 i0 i1 u.2.1 u.2.2) (fun u => xX K r u.1.1 u.1.2.1 u.1.2.2 (iW K u.2.1 ++ (iW K u.2.2 ++ tt))) 21 197 := by
  refine kIE.of (cc := cX11_image) (maxL := 2) (ret := (some .int)) (by decide) rfl (Nat.le_of_ble_eq_true rfl) ?_
  intro p e s m below meth c A hx hb hr hml hown hts hlocks hnm hK hP hD hS hA hV ls hl
  have hg : ∀ w ∈ kG, w.before ([.ref (r 0), .int x] : List Value).toArray s = true := fun w h => hts w (List.mem_cons_of_mem _ h)
  have hown : s.vm.findClass RX11 = some m.cls := hown
  have hl : lv_has ls 2 [(0, .ref (r 0)), (1, .int x)] := hl
  by_cases q0 : x = 0
  · have hl : lv_has ls 2 [(0, .ref (r 0)), (1, .int 0)] := q0 ▸ hl
    refine lv_iload_n hx hb dX11_image_0 rfl (lv_at hl 1 rfl) ?_
    refine lv_if_lt (tgt := 9) hx hb dX11_image_1 (by decide) (fun c1 => absurd c1 (by decide +kernel)) (fun c1 => ?_)
    refine lv_iload_n hx hb dX11_image_4 rfl (lv_at hl 1 rfl) ?_
    refine lv_iconst (v := 2) hx hb dX11_image_5 (by decide) ?_
    refine lv_icmp_lt (tgt := 15) hx hb dX11_image_6 (by decide) (fun c2 => ?_) (fun c2 => absurd (by decide +kernel) c2)
    refine lv_aload_n hx hb dX11_image_15 rfl (lv_at hl 0 rfl) ?_
    refine va_get (D := D) (ci := 11) (v := .ref (r 92)) (C := RX11) (T := TX11) (N := 17) hx hb hg inC11 hown hK hP 0 rfl rfl 9 (by decide) (hg _ wt2_195) (fun _ h9 => h9) rfl dX11_image_16 ?_
    refine lv_iload_n hx hb dX11_image_19 rfl (lv_at hl 1 rfl) ?_
    refine va_aldq hx hb hK hP 92 4 rfl rfl (k_in (by decide +kernel)) dX11_image_20 ?_
    rw [cl_0]
    rcases opt_c i0 with hi | ⟨sx, hi⟩
    · have hgk : g.2 92 0 = none := by rw [hg0, hi]; rfl
      refine k_topn hgk ?_
      refine lv_ifnonnullN hx hb dX11_image_21 ?_
      have hP : va_P D vwCl (xX K r f0 a0 g (iW K i1 ++ tt)) _ := (by rw [hi] at hP; exact hP)
      have hD : va_D A (xX K r f0 a0 g (iW K i1 ++ tt)) := (by rw [hi] at hD; exact hD)
      refine lv_aload_n hx hb dX11_image_24 rfl (lv_at hl 0 rfl) ?_
      refine va_get (D := D) (ci := 11) (v := .ref (r 92)) (C := RX11) (T := TX11) (N := 17) hx hb hg inC11 hown hK hP 0 rfl rfl 9 (by decide) (hg _ wt2_195) (fun _ h9 => h9) rfl dX11_image_25 ?_
      refine lv_iload_n hx hb dX11_image_28 rfl (lv_at hl 1 rfl) ?_
      refine va_new (ci := 7) (fs := [.int 0, .null, .null, .null, .null, .null, .int 0, .null, .null, .null, .null, .null, .int 0, .null, .null, .null, .null, .int 0, .int 0, .null]) (C := RX7) (T := TX7) (N := 20) hx hb hg inC7 tyX7 tyX7_ok hown (hg _ wt1_30) (hg _ wt1_31) (hg _ wt1_2) hK hP hD hS hA rfl (fun j hj => by rcases (show j = 0 ∨ j = 1 ∨ j = 2 ∨ j = 3 ∨ j = 4 ∨ j = 5 ∨ j = 6 ∨ j = 7 ∨ j = 8 ∨ j = 9 ∨ j = 10 ∨ j = 11 ∨ j = 12 ∨ j = 13 ∨ j = 14 ∨ j = 15 ∨ j = 16 ∨ j = 17 ∨ j = 18 ∨ j = 19 by omega) with rfl | rfl | rfl | rfl | rfl | rfl | rfl | rfl | rfl | rfl | rfl | rfl | rfl | rfl | rfl | rfl | rfl | rfl | rfl | rfl <;> rfl) (by decide) (by decide) dX11_image_29 (fun q H hP hD hS => ?_)
      refine lv_dup hx hb dX11_image_32 rfl ?_
      refine kVE.callIN (ws := xX K r f0 a0 g (iW K i1 ++ tt)) (As := []) (rest := [.ref q, .int 0, .ref (r 92)]) ⟨hx, hb, hml, hown, hg⟩ (k_X7_init l q) ⟨va_cnB (host := RX11) 0 hg (kgC wt1_34) rfl rfl rfl (hV.1.1 (RX11, 9, yX7_init) (by simp [kNM])) (hg _ wt1_2) (by decide +kernel) ⟨by decide, by decide⟩, rfl, hg _ wt1_33⟩ hV.1 hK hP hD hS hA rfl hl.1 rfl (Nat.le_of_ble_eq_true rfl) dX11_image_33 ⟨by decide, by decide⟩ (fun u H locs _ hP hD hS => ?_)
      have hP : va_P D vwCl (xX K r f0 a0 g (sI K (fun k => if k = 95 then q else u (k - 95)) (fun j => if j = 3058 then (-1) else 0) (fun k => if k = 105 then tf0 else fun _ => 0) ((fun _ _ => 0, fun _ _ => none) : xG) ++ (iW K i1 ++ tt))) H := va_P_pm xX_end hP
      have hD : va_D A (xX K r f0 a0 g (sI K (fun k => if k = 95 then q else u (k - 95)) (fun j => if j = 3058 then (-1) else 0) (fun k => if k = 105 then tf0 else fun _ => 0) ((fun _ _ => 0, fun _ _ => none) : xG) ++ (iW K i1 ++ tt))) := va_D_pm xX_end hD
      refine va_astq hx hb hK hP hD hS 92 4 95 7 rfl rfl rfl rfl (k_in (by decide +kernel)) dX11_image_36 (fun H locs hP hD hS => ?_)
      rw [cl_0] at hP hD
      refine W.widen (k := 21) (n := 197) (by decide) (by decide) ?_
      exact x_img_t0 l hx hb hr hml hown hlocks hK hA hV (f := f0) (a := a0) (g := (g.1, va_up g.2 92 (va_up (g.2 92) 0 (some q)))) (i0 := i0) (i1 := i1) (sx := ((fun k => if k = 95 then q else u (k - 95), fun j => if j = 3058 then (-1) else 0, fun k => if k = 105 then tf0 else fun _ => 0, (fun _ _ => 0, fun _ _ => none)) : sX)) q0 hg hI (gOK_o hG 92 _ (by decide)) (show kb 0 (0 : Int32) 10 from ⟨by decide +kernel, by decide +kernel⟩) (fun _ => Or.inl rfl) h1 rfl (hg1) (fun _ _ => rfl) rfl hP hD hS hl
    · have hgk : g.2 92 0 = some (sx.1 95) := by rw [hg0, hi]; rfl
      refine k_tops hgk ?_
      refine lv_ifnonnull (tgt := 37) hx hb dX11_image_21 (by decide) ?_
      have hP : va_P D vwCl (xX K r f0 a0 g (sI K sx.1 sx.2.1 sx.2.2.1 sx.2.2.2 ++ (iW K i1 ++ tt))) _ := (by rw [hi] at hP; exact hP)
      have hD : va_D A (xX K r f0 a0 g (sI K sx.1 sx.2.1 sx.2.2.1 sx.2.2.2 ++ (iW K i1 ++ tt))) := (by rw [hi] at hD; exact hD)
      have hs : iOK K tt (some sx) := hi ▸ h0
      refine W.widen (k := 21) (n := 197) (by decide) (by decide) ?_
      exact x_img_t0 l hx hb hr hml hown hlocks hK hA hV (f := f0) (a := a0) (g := g) (i0 := i0) (i1 := i1) (sx := sx) q0 hg hI hG hs.1 hs.2 h1 hgk hg1 (fun _ _ => rfl) rfl hP hD hS hl
  by_cases q1 : x = 1
  · have hl : lv_has ls 2 [(0, .ref (r 0)), (1, .int 1)] := q1 ▸ hl
    refine lv_iload_n hx hb dX11_image_0 rfl (lv_at hl 1 rfl) ?_
    refine lv_if_lt (tgt := 9) hx hb dX11_image_1 (by decide) (fun c1 => absurd c1 (by decide +kernel)) (fun c1 => ?_)
    refine lv_iload_n hx hb dX11_image_4 rfl (lv_at hl 1 rfl) ?_
    refine lv_iconst (v := 2) hx hb dX11_image_5 (by decide) ?_
    refine lv_icmp_lt (tgt := 15) hx hb dX11_image_6 (by decide) (fun c2 => ?_) (fun c2 => absurd (by decide +kernel) c2)
    refine lv_aload_n hx hb dX11_image_15 rfl (lv_at hl 0 rfl) ?_
    refine va_get (D := D) (ci := 11) (v := .ref (r 92)) (C := RX11) (T := TX11) (N := 17) hx hb hg inC11 hown hK hP 0 rfl rfl 9 (by decide) (hg _ wt2_195) (fun _ h9 => h9) rfl dX11_image_16 ?_
    refine lv_iload_n hx hb dX11_image_19 rfl (lv_at hl 1 rfl) ?_
    refine va_aldq hx hb hK hP 92 4 rfl rfl (k_in (by decide +kernel)) dX11_image_20 ?_
    rw [cl_1]
    rcases opt_c i1 with hi | ⟨sx, hi⟩
    · have hgk : g.2 92 1 = none := by rw [hg1, hi]; rfl
      refine k_topn hgk ?_
      refine lv_ifnonnullN hx hb dX11_image_21 ?_
      have hP : va_P D vwCl (xX K r f0 a0 g (iW K i0 ++ tt)) _ := (by rw [hi] at hP; exact hP)
      have hD : va_D A (xX K r f0 a0 g (iW K i0 ++ tt)) := (by rw [hi] at hD; exact hD)
      refine lv_aload_n hx hb dX11_image_24 rfl (lv_at hl 0 rfl) ?_
      refine va_get (D := D) (ci := 11) (v := .ref (r 92)) (C := RX11) (T := TX11) (N := 17) hx hb hg inC11 hown hK hP 0 rfl rfl 9 (by decide) (hg _ wt2_195) (fun _ h9 => h9) rfl dX11_image_25 ?_
      refine lv_iload_n hx hb dX11_image_28 rfl (lv_at hl 1 rfl) ?_
      refine va_new (ci := 7) (fs := [.int 0, .null, .null, .null, .null, .null, .int 0, .null, .null, .null, .null, .null, .int 0, .null, .null, .null, .null, .int 0, .int 0, .null]) (C := RX7) (T := TX7) (N := 20) hx hb hg inC7 tyX7 tyX7_ok hown (hg _ wt1_30) (hg _ wt1_31) (hg _ wt1_2) hK hP hD hS hA rfl (fun j hj => by rcases (show j = 0 ∨ j = 1 ∨ j = 2 ∨ j = 3 ∨ j = 4 ∨ j = 5 ∨ j = 6 ∨ j = 7 ∨ j = 8 ∨ j = 9 ∨ j = 10 ∨ j = 11 ∨ j = 12 ∨ j = 13 ∨ j = 14 ∨ j = 15 ∨ j = 16 ∨ j = 17 ∨ j = 18 ∨ j = 19 by omega) with rfl | rfl | rfl | rfl | rfl | rfl | rfl | rfl | rfl | rfl | rfl | rfl | rfl | rfl | rfl | rfl | rfl | rfl | rfl | rfl <;> rfl) (by decide) (by decide) dX11_image_29 (fun q H hP hD hS => ?_)
      refine lv_dup hx hb dX11_image_32 rfl ?_
      refine kVE.callIN (ws := xX K r f0 a0 g (iW K i0 ++ tt)) (As := []) (rest := [.ref q, .int 1, .ref (r 92)]) ⟨hx, hb, hml, hown, hg⟩ (k_X7_init l q) ⟨va_cnB (host := RX11) 0 hg (kgC wt1_34) rfl rfl rfl (hV.1.1 (RX11, 9, yX7_init) (by simp [kNM])) (hg _ wt1_2) (by decide +kernel) ⟨by decide, by decide⟩, rfl, hg _ wt1_33⟩ hV.1 hK hP hD hS hA rfl hl.1 rfl (Nat.le_of_ble_eq_true rfl) dX11_image_33 ⟨by decide, by decide⟩ (fun u H locs _ hP hD hS => ?_)
      have hP : va_P D vwCl (xX K r f0 a0 g (sI K (fun k => if k = 95 then q else u (k - 95)) (fun j => if j = 3058 then (-1) else 0) (fun k => if k = 105 then tf0 else fun _ => 0) ((fun _ _ => 0, fun _ _ => none) : xG) ++ (iW K i0 ++ tt))) H := va_P_pm xX_end hP
      have hD : va_D A (xX K r f0 a0 g (sI K (fun k => if k = 95 then q else u (k - 95)) (fun j => if j = 3058 then (-1) else 0) (fun k => if k = 105 then tf0 else fun _ => 0) ((fun _ _ => 0, fun _ _ => none) : xG) ++ (iW K i0 ++ tt))) := va_D_pm xX_end hD
      refine va_astq hx hb hK hP hD hS 92 4 95 7 rfl rfl rfl rfl (k_in (by decide +kernel)) dX11_image_36 (fun H locs hP hD hS => ?_)
      rw [cl_1] at hP hD
      refine W.widen (k := 21) (n := 197) (by decide) (by decide) ?_
      exact x_img_t1 l hx hb hr hml hown hlocks hK hA hV (f := f0) (a := a0) (g := (g.1, va_up g.2 92 (va_up (g.2 92) 1 (some q)))) (i0 := i0) (i1 := i1) (sx := ((fun k => if k = 95 then q else u (k - 95), fun j => if j = 3058 then (-1) else 0, fun k => if k = 105 then tf0 else fun _ => 0, (fun _ _ => 0, fun _ _ => none)) : sX)) q1 hg hI (gOK_o hG 92 _ (by decide)) (show kb 0 (0 : Int32) 10 from ⟨by decide +kernel, by decide +kernel⟩) (fun _ => Or.inl rfl) h0 rfl (hg0) (fun _ _ => rfl) rfl hP hD hS hl
    · have hgk : g.2 92 1 = some (sx.1 95) := by rw [hg1, hi]; rfl
      refine k_tops hgk ?_
      refine lv_ifnonnull (tgt := 37) hx hb dX11_image_21 (by decide) ?_
      have hP : va_P D vwCl (xX K r f0 a0 g (sI K sx.1 sx.2.1 sx.2.2.1 sx.2.2.2 ++ (iW K i0 ++ tt))) _ := va_P_pm (xX_pm (List.perm_append_comm_assoc _ _ _)) (by rw [hi] at hP; exact hP)
      have hD : va_D A (xX K r f0 a0 g (sI K sx.1 sx.2.1 sx.2.2.1 sx.2.2.2 ++ (iW K i0 ++ tt))) := va_D_pm (xX_pm (List.perm_append_comm_assoc _ _ _)) (by rw [hi] at hD; exact hD)
      have hs : iOK K tt (some sx) := hi ▸ h1
      refine W.widen (k := 21) (n := 197) (by decide) (by decide) ?_
      exact x_img_t1 l hx hb hr hml hown hlocks hK hA hV (f := f0) (a := a0) (g := g) (i0 := i0) (i1 := i1) (sx := sx) q1 hg hI hG hs.1 hs.2 h0 hgk hg0 (fun _ _ => rfl) rfl hP hD hS hl
  have fin : ∀ (H : Heap) (locs : List Loc) (ls : Array Slot), va_P D vwCl (xX K r f0 a0 g (iW K i0 ++ (iW K i1 ++ tt))) H → va_D A (xX K r f0 a0 g (iW K i0 ++ (iW K i1 ++ tt))) → va_S A s.heap H locs → lv_has ls 2 [(0, .ref (r 0)), (1, .int x)] → W p l e (rmD 8 21 197) s m ([.ref (r 0), .int x] : List Value).toArray below meth c H locs 0 0 (kQi D (tysK K) (fun v (u : xS × Option sX × Option sX) => xI u.1.1 u.1.2.1 ∧ gOK K u.1.2.2.2 tt ∧ iOK K tt u.2.1 ∧ iOK K tt u.2.2 ∧ u.1.2.2.2 92 0 = iA u.2.1 ∧ u.1.2.2.2 92 1 = iA u.2.2 ∧ (∀ k, [12, 13, 14, 32, 38, 44, 49, 50, 832, 838, 844, 849, 850].contains k = true → u.1.1 k = f0 k) ∧ u.1.2.1 93 = a0 93 ∧ imgP x v f0 i0 i1 u.2.1 u.2.2) (fun u => xX K r u.1.1 u.1.2.1 u.1.2.2 (iW K u.2.1 ++ (iW K u.2.2 ++ tt))) A below ([.ref (r 0), .int x] : List Value).toArray s 21 197) (F0 m 9 ls []) := by
    intro H locs ls hP hD hS hl
    refine lv_aload_n hx hb dX11_image_9 rfl (lv_at hl 0 rfl) ?_
    refine lv_iconst (v := (-1)) hx hb dX11_image_10 (by decide) ?_
    refine kIG.callW (As := [.int (-1)]) (rest := []) ⟨hx, hb, hml, hown, hg⟩ (x_11_refuse l r f0 a0 g (iW K i0 ++ (iW K i1 ++ tt)) tt mem_rr hI hG (-1)) (cwV 1 hg (kgV wt3_7 wt3_9 wp1_0 wt1_1 wt3_10) rfl rfl rfl (by decide +kernel) ⟨by decide, by decide⟩) hV hK hP hD hS hA 0 11 rfl rfl rfl hl.1 rfl (Nat.le_of_ble_eq_true rfl) dX11_image_11 ⟨by decide, by decide⟩ (fun v2 u2 H locs h2 hP hD hS => ?_)
    obtain ⟨f2, a2, g2⟩ := u2
    obtain ⟨-, hI2, hG2, hE2, hv2⟩ := h2
    refine k_top (z := (-1)) hv2 ?_
    refine W.widen (k := 21) (n := 197) (by decide) (by decide) ?_
    have hq92 : g2.2 92 = g.2 92 := hE2.2.2
    exact kI_ret (v := (-1)) hx hb hr hlocks rfl hK hS dX11_image_14 ((f2, a2, g2), i0, i1) hP hD ⟨hI2, hG2, h0, h1, by rw [hq92]; exact hg0, by rw [hq92]; exact hg1, hE2.1, hE2.2.1, Or.inl ⟨rfl, no01 q0 q1, rfl, rfl⟩⟩
  refine lv_iload_n hx hb dX11_image_0 rfl (lv_at hl 1 rfl) ?_
  refine lv_if_lt (tgt := 9) hx hb dX11_image_1 (by decide) (fun c1 => fin _ _ _ hP hD hS hl) (fun c1 => ?_)
  refine lv_iload_n hx hb dX11_image_4 rfl (lv_at hl 1 rfl) ?_
  refine lv_iconst (v := 2) hx hb dX11_image_5 (by decide) ?_
  refine lv_icmp_lt (tgt := 15) hx hb dX11_image_6 (by decide) (fun c2 => absurd c2 (ge2 q0 q1 c1)) (fun c2 => fin _ _ _ hP hD hS hl)
set_option maxHeartbeats 4000000 in
set_option maxRecDepth 100000 in
theorem x_bck_t0 {p : Program} {e : Env} {s : State} {m : MethodId} {below : List Frame} {meth : Method} {c : Code} {A : Nat → Prop} (l : Launch) {D : va_G} {K : Nat → ClassId} {r : Nat → Nat} {f0 : Nat → Int32} {a0 : Nat → Nat → Int32} (hx : p.tables.exec = Jvm.exec) (hb : c.code = cX11_back) (hr : meth.sig.returnType = some .int) (hml : c.maxLocals = 2) (hown : s.vm.findClass RX11 = some m.cls) (hlocks : meth.locks = false) (hK : va_K D vwCl (tysK K) s) (hA : ∀ q, s.heap.size ≤ q → A q) (hV : xE K A s s.heap) {g : xG} {i0 i1 : Option sX} {tt : va_W} {sx : sX} {x : Int32} (ex : x = 0) (hg : ∀ w ∈ kG, w.before ([.ref (r 0), .int x] : List Value).toArray s = true) (hI : xI f0 a0) (hG : gOK K g.2 tt) (hi : i0 = some sx) (h0 : kb 0 (sx.2.1 3040) 10) (h1 : rOK K tt (sx.2.2.2.2 109)) (ho : iOK K tt i1) (hgk : g.2 92 0 = some (sx.1 95)) (hgo : g.2 92 1 = iA i1) {H : Heap} {locs : List Loc} {ls : Array Slot} (hP : va_P D vwCl (xX K r f0 a0 g (sI K sx.1 sx.2.1 sx.2.2.1 sx.2.2.2 ++ (iW K i1 ++ tt))) H) (hD : va_D A (xX K r f0 a0 g (sI K sx.1 sx.2.1 sx.2.2.1 sx.2.2.2 ++ (iW K i1 ++ tt)))) (hS : va_S A s.heap H locs) (hl : lv_has ls 2 [(0, .ref (r 0)), (1, .int 0)]) : W p l e (rmD 8 21 197) s m ([.ref (r 0), .int x] : List Value).toArray below meth c H locs 21 197 (kQi D (tysK K) (fun v (u : xS × Option sX × Option sX) => xI u.1.1 u.1.2.1 ∧ gOK K u.1.2.2.2 tt ∧ iOK K tt u.2.1 ∧ iOK K tt u.2.2 ∧ u.1.2.2.2 92 0 = iA u.2.1 ∧ u.1.2.2.2 92 1 = iA u.2.2 ∧ (∀ k, [12, 13, 14].contains k = true → u.1.1 k = f0 k) ∧ u.1.2.1 93 = a0 93 ∧ iS i0 u.2.1 ∧ iS i1 u.2.2 ∧ bckP x v f0 u.1.1 i0 i1) (fun u => xX K r u.1.1 u.1.2.1 u.1.2.2 (iW K u.2.1 ++ (iW K u.2.2 ++ tt))) A below ([.ref (r 0), .int x] : List Value).toArray s 21 197) (F0 m 31 ls []) := by
  refine lv_aload_n hx hb dX11_back_31 rfl (lv_at hl 0 rfl) ?_
  refine va_get (D := D) (ci := 11) (v := .ref (r 1)) (C := RX11) (T := TX11) (N := 17) hx hb hg inC11 hown hK hP 0 rfl rfl 0 (by decide) (hg _ wt2_186) (fun _ h9 => h9) rfl dX11_back_32 ?_
  refine lv_aload_n hx hb dX11_back_35 rfl (lv_at hl 0 rfl) ?_
  refine va_get (D := D) (ci := 11) (v := .ref (r 92)) (C := RX11) (T := TX11) (N := 17) hx hb hg inC11 hown hK hP 0 rfl rfl 9 (by decide) (hg _ wt2_195) (fun _ h9 => h9) rfl dX11_back_36 ?_
  refine lv_iload_n hx hb dX11_back_39 rfl (lv_at hl 1 rfl) ?_
  refine va_aldq hx hb hK hP 92 4 rfl rfl (k_in (by decide +kernel)) dX11_back_40 ?_
  rw [cl_0]
  refine k_tops hgk ?_
  have hP : va_P D vwCl (xX K (mr r sx) (mf f0 sx) (ma a0 sx) (mg g sx) (sI K (mr r sx) (mf f0 sx) (ma a0 sx) (mg g sx) ++ (iW K i1 ++ tt))) H := hP
  have hD : va_D A (xX K (mr r sx) (mf f0 sx) (ma a0 sx) (mg g sx) (sI K (mr r sx) (mf f0 sx) (ma a0 sx) (mg g sx) ++ (iW K i1 ++ tt))) := hD
  refine kVG.callW (As := [.ref (sx.1 95)]) (rest := []) ⟨hx, hb, hml, hown, hg⟩ (x_7_copyFromB l (mr r sx) (mf f0 sx) (ma a0 sx) (mg g sx) (iW K i1 ++ tt) tt mem_r (xI_m hI h0) (gOK_m hG h1)) (cwV 1 hg (kgV wt5_141 wt4_80 wt4_81 wt1_2 wt4_82) rfl rfl rfl (by decide +kernel) ⟨by decide, by decide⟩) hV hK hP hD hS hA 1 7 rfl rfl rfl hl.1 rfl (Nat.le_of_ble_eq_true rfl) dX11_back_41 ⟨by decide, by decide⟩ (fun u1 H locs h1 hP hD hS => ?_)
  obtain ⟨f1, a1, g1⟩ := u1
  obtain ⟨hI1, hG1, hE1, hp1, hp2, hp3, hp4, hp5⟩ := h1
  have hP : va_P D vwCl (xX K r f1 a1 g1 (sI K sx.1 f1 a1 g1 ++ (iW K i1 ++ tt))) H := hP
  have hD : va_D A (xX K r f1 a1 g1 (sI K sx.1 f1 a1 g1 ++ (iW K i1 ++ tt))) := hD
  refine lv_aload_n hx hb dX11_back_44 rfl (lv_at hl 0 rfl) ?_
  refine va_get (D := D) (ci := 11) (v := .ref (r 22)) (C := RX11) (T := TX11) (N := 17) hx hb hg inC11 hown hK hP 0 rfl rfl 1 (by decide) (hg _ wt2_187) (fun _ h9 => h9) rfl dX11_back_45 ?_
  refine kVG.callW (As := []) (rest := []) ⟨hx, hb, hml, hown, hg⟩ (x_2_clear l r f1 a1 g1 (sI K sx.1 f1 a1 g1 ++ (iW K i1 ++ tt)) tt mem_rr hI1 hG1) (cwV 0 hg (kgV wt3_11 wt3_12 wt3_13 wt1_4 wt3_14) rfl rfl rfl (by decide +kernel) ⟨by decide, by decide⟩) hV hK hP hD hS hA 22 2 rfl rfl rfl hl.1 rfl (Nat.le_of_ble_eq_true rfl) dX11_back_48 ⟨by decide, by decide⟩ (fun u2 H locs h2 hP hD hS => ?_)
  obtain ⟨f2, a2, g2⟩ := u2
  obtain ⟨hI2, hG2, hE2⟩ := h2
  have hP : va_P D vwCl (xX K r f2 a2 g2 (sI K sx.1 f1 a1 g1 ++ (iW K i1 ++ tt))) H := hP
  have hD : va_D A (xX K r f2 a2 g2 (sI K sx.1 f1 a1 g1 ++ (iW K i1 ++ tt))) := hD
  refine lv_aload_n hx hb dX11_back_51 rfl (lv_at hl 0 rfl) ?_
  refine lv_iconst (v := 0) hx hb dX11_back_52 (by decide) ?_
  refine kIG.callW (As := [.int 0]) (rest := []) ⟨hx, hb, hml, hown, hg⟩ (x_11_agreeChanged l r f2 a2 g2 (sI K sx.1 f1 a1 g1 ++ (iW K i1 ++ tt)) tt mem_rr hI2 hG2 0) (cwV 1 hg (kgV wt3_15 wt3_17 wp1_1 wt1_1 wt3_18) rfl rfl rfl (by decide +kernel) ⟨by decide, by decide⟩) hV hK hP hD hS hA 0 11 rfl rfl rfl hl.1 rfl (Nat.le_of_ble_eq_true rfl) dX11_back_53 ⟨by decide, by decide⟩ (fun v3 u3 H locs h3 hP hD hS => ?_)
  obtain ⟨f3, a3, g3⟩ := u3
  obtain ⟨-, hI3, hG3, hE3, hv3⟩ := h3
  refine k_top (z := 0) hv3 ?_
  have hP : va_P D vwCl (xX K r f3 a3 g3 (sI K sx.1 f1 a1 g1 ++ (iW K i1 ++ tt))) H := hP
  have hD : va_D A (xX K r f3 a3 g3 (sI K sx.1 f1 a1 g1 ++ (iW K i1 ++ tt))) := hD
  have hTL : ∀ k, [12, 13, 14].contains k = true → f3 k = f0 k := by
    intro k hk
    have hk2 := List.contains_iff_mem.mp hk
    simp only [List.mem_cons, List.not_mem_nil, or_false] at hk2
    rcases hk2 with e | e | e
    · rw [e]; exact (hE3.1 12 rfl).trans ((hE2.1 12 rfl).trans (hE1.1 12 rfl))
    · rw [e]; exact (hE3.1 13 rfl).trans ((hE2.1 13 rfl).trans (hE1.1 13 rfl))
    · rw [e]; exact (hE3.1 14 rfl).trans ((hE2.1 14 rfl).trans (hE1.1 14 rfl))
  have h93 : a3 93 = a0 93 := hE3.2.1.trans (hE2.2.1.trans hE1.2.1)
  have hq92 : g3.2 92 = g.2 92 := hE3.2.2.trans (hE2.2.2.trans hE1.2.2)
  have hs1 : iOK K tt (some (sx.1, f1, a1, g1)) := ⟨fI_at hI1.1 3040 (by decide) (by decide), fun i => hG1 109 i (Or.inr (Or.inr (Or.inr rfl)))⟩
  have his : iS i0 (some (sx.1, f1, a1, g1)) := by rw [hi]; exact ⟨hE1.1 3040 rfl, hE1.1 3046 rfl, hE1.1 3052 rfl, hE1.1 3057 rfl, hE1.1 3058 rfl⟩
  have hig : iG i0 f3 := by rw [hi]; exact ⟨(hE3.1 32 rfl).trans ((hE2.1 32 rfl).trans hp1), (hE3.1 38 rfl).trans ((hE2.1 38 rfl).trans hp2), (hE3.1 44 rfl).trans ((hE2.1 44 rfl).trans hp3), (hE3.1 49 rfl).trans ((hE2.1 49 rfl).trans hp4), (hE3.1 50 rfl).trans ((hE2.1 50 rfl).trans hp5)⟩
  exact kI_ret (v := 0) hx hb hr hlocks rfl hK hS dX11_back_56 ((f3, a3, g3), some (sx.1, f1, a1, g1), i1) hP hD ⟨hI3, hG3, hs1, ho, by rw [hq92]; exact hgk, by rw [hq92]; exact hgo, hTL, h93, his, iS_rf _, Or.inr (Or.inr ⟨rfl, Or.inl ⟨ex, hig⟩⟩)⟩
set_option maxHeartbeats 4000000 in
set_option maxRecDepth 100000 in
theorem x_bck_t1 {p : Program} {e : Env} {s : State} {m : MethodId} {below : List Frame} {meth : Method} {c : Code} {A : Nat → Prop} (l : Launch) {D : va_G} {K : Nat → ClassId} {r : Nat → Nat} {f0 : Nat → Int32} {a0 : Nat → Nat → Int32} (hx : p.tables.exec = Jvm.exec) (hb : c.code = cX11_back) (hr : meth.sig.returnType = some .int) (hml : c.maxLocals = 2) (hown : s.vm.findClass RX11 = some m.cls) (hlocks : meth.locks = false) (hK : va_K D vwCl (tysK K) s) (hA : ∀ q, s.heap.size ≤ q → A q) (hV : xE K A s s.heap) {g : xG} {i0 i1 : Option sX} {tt : va_W} {sx : sX} {x : Int32} (ex : x = 1) (hg : ∀ w ∈ kG, w.before ([.ref (r 0), .int x] : List Value).toArray s = true) (hI : xI f0 a0) (hG : gOK K g.2 tt) (hi : i1 = some sx) (h0 : kb 0 (sx.2.1 3040) 10) (h1 : rOK K tt (sx.2.2.2.2 109)) (ho : iOK K tt i0) (hgk : g.2 92 1 = some (sx.1 95)) (hgo : g.2 92 0 = iA i0) {H : Heap} {locs : List Loc} {ls : Array Slot} (hP : va_P D vwCl (xX K r f0 a0 g (sI K sx.1 sx.2.1 sx.2.2.1 sx.2.2.2 ++ (iW K i0 ++ tt))) H) (hD : va_D A (xX K r f0 a0 g (sI K sx.1 sx.2.1 sx.2.2.1 sx.2.2.2 ++ (iW K i0 ++ tt)))) (hS : va_S A s.heap H locs) (hl : lv_has ls 2 [(0, .ref (r 0)), (1, .int 1)]) : W p l e (rmD 8 21 197) s m ([.ref (r 0), .int x] : List Value).toArray below meth c H locs 21 197 (kQi D (tysK K) (fun v (u : xS × Option sX × Option sX) => xI u.1.1 u.1.2.1 ∧ gOK K u.1.2.2.2 tt ∧ iOK K tt u.2.1 ∧ iOK K tt u.2.2 ∧ u.1.2.2.2 92 0 = iA u.2.1 ∧ u.1.2.2.2 92 1 = iA u.2.2 ∧ (∀ k, [12, 13, 14].contains k = true → u.1.1 k = f0 k) ∧ u.1.2.1 93 = a0 93 ∧ iS i0 u.2.1 ∧ iS i1 u.2.2 ∧ bckP x v f0 u.1.1 i0 i1) (fun u => xX K r u.1.1 u.1.2.1 u.1.2.2 (iW K u.2.1 ++ (iW K u.2.2 ++ tt))) A below ([.ref (r 0), .int x] : List Value).toArray s 21 197) (F0 m 31 ls []) := by
  refine lv_aload_n hx hb dX11_back_31 rfl (lv_at hl 0 rfl) ?_
  refine va_get (D := D) (ci := 11) (v := .ref (r 1)) (C := RX11) (T := TX11) (N := 17) hx hb hg inC11 hown hK hP 0 rfl rfl 0 (by decide) (hg _ wt2_186) (fun _ h9 => h9) rfl dX11_back_32 ?_
  refine lv_aload_n hx hb dX11_back_35 rfl (lv_at hl 0 rfl) ?_
  refine va_get (D := D) (ci := 11) (v := .ref (r 92)) (C := RX11) (T := TX11) (N := 17) hx hb hg inC11 hown hK hP 0 rfl rfl 9 (by decide) (hg _ wt2_195) (fun _ h9 => h9) rfl dX11_back_36 ?_
  refine lv_iload_n hx hb dX11_back_39 rfl (lv_at hl 1 rfl) ?_
  refine va_aldq hx hb hK hP 92 4 rfl rfl (k_in (by decide +kernel)) dX11_back_40 ?_
  rw [cl_1]
  refine k_tops hgk ?_
  have hP : va_P D vwCl (xX K (mr r sx) (mf f0 sx) (ma a0 sx) (mg g sx) (sI K (mr r sx) (mf f0 sx) (ma a0 sx) (mg g sx) ++ (iW K i0 ++ tt))) H := hP
  have hD : va_D A (xX K (mr r sx) (mf f0 sx) (ma a0 sx) (mg g sx) (sI K (mr r sx) (mf f0 sx) (ma a0 sx) (mg g sx) ++ (iW K i0 ++ tt))) := hD
  refine kVG.callW (As := [.ref (sx.1 95)]) (rest := []) ⟨hx, hb, hml, hown, hg⟩ (x_7_copyFromB l (mr r sx) (mf f0 sx) (ma a0 sx) (mg g sx) (iW K i0 ++ tt) tt mem_r (xI_m hI h0) (gOK_m hG h1)) (cwV 1 hg (kgV wt5_141 wt4_80 wt4_81 wt1_2 wt4_82) rfl rfl rfl (by decide +kernel) ⟨by decide, by decide⟩) hV hK hP hD hS hA 1 7 rfl rfl rfl hl.1 rfl (Nat.le_of_ble_eq_true rfl) dX11_back_41 ⟨by decide, by decide⟩ (fun u1 H locs h1 hP hD hS => ?_)
  obtain ⟨f1, a1, g1⟩ := u1
  obtain ⟨hI1, hG1, hE1, hp1, hp2, hp3, hp4, hp5⟩ := h1
  have hP : va_P D vwCl (xX K r f1 a1 g1 (sI K sx.1 f1 a1 g1 ++ (iW K i0 ++ tt))) H := hP
  have hD : va_D A (xX K r f1 a1 g1 (sI K sx.1 f1 a1 g1 ++ (iW K i0 ++ tt))) := hD
  refine lv_aload_n hx hb dX11_back_44 rfl (lv_at hl 0 rfl) ?_
  refine va_get (D := D) (ci := 11) (v := .ref (r 22)) (C := RX11) (T := TX11) (N := 17) hx hb hg inC11 hown hK hP 0 rfl rfl 1 (by decide) (hg _ wt2_187) (fun _ h9 => h9) rfl dX11_back_45 ?_
  refine kVG.callW (As := []) (rest := []) ⟨hx, hb, hml, hown, hg⟩ (x_2_clear l r f1 a1 g1 (sI K sx.1 f1 a1 g1 ++ (iW K i0 ++ tt)) tt mem_rr hI1 hG1) (cwV 0 hg (kgV wt3_11 wt3_12 wt3_13 wt1_4 wt3_14) rfl rfl rfl (by decide +kernel) ⟨by decide, by decide⟩) hV hK hP hD hS hA 22 2 rfl rfl rfl hl.1 rfl (Nat.le_of_ble_eq_true rfl) dX11_back_48 ⟨by decide, by decide⟩ (fun u2 H locs h2 hP hD hS => ?_)
  obtain ⟨f2, a2, g2⟩ := u2
  obtain ⟨hI2, hG2, hE2⟩ := h2
  have hP : va_P D vwCl (xX K r f2 a2 g2 (sI K sx.1 f1 a1 g1 ++ (iW K i0 ++ tt))) H := hP
  have hD : va_D A (xX K r f2 a2 g2 (sI K sx.1 f1 a1 g1 ++ (iW K i0 ++ tt))) := hD
  refine lv_aload_n hx hb dX11_back_51 rfl (lv_at hl 0 rfl) ?_
  refine lv_iconst (v := 0) hx hb dX11_back_52 (by decide) ?_
  refine kIG.callW (As := [.int 0]) (rest := []) ⟨hx, hb, hml, hown, hg⟩ (x_11_agreeChanged l r f2 a2 g2 (sI K sx.1 f1 a1 g1 ++ (iW K i0 ++ tt)) tt mem_rr hI2 hG2 0) (cwV 1 hg (kgV wt3_15 wt3_17 wp1_1 wt1_1 wt3_18) rfl rfl rfl (by decide +kernel) ⟨by decide, by decide⟩) hV hK hP hD hS hA 0 11 rfl rfl rfl hl.1 rfl (Nat.le_of_ble_eq_true rfl) dX11_back_53 ⟨by decide, by decide⟩ (fun v3 u3 H locs h3 hP hD hS => ?_)
  obtain ⟨f3, a3, g3⟩ := u3
  obtain ⟨-, hI3, hG3, hE3, hv3⟩ := h3
  refine k_top (z := 0) hv3 ?_
  have hP : va_P D vwCl (xX K r f3 a3 g3 (sI K sx.1 f1 a1 g1 ++ (iW K i0 ++ tt))) H := hP
  have hD : va_D A (xX K r f3 a3 g3 (sI K sx.1 f1 a1 g1 ++ (iW K i0 ++ tt))) := hD
  have hTL : ∀ k, [12, 13, 14].contains k = true → f3 k = f0 k := by
    intro k hk
    have hk2 := List.contains_iff_mem.mp hk
    simp only [List.mem_cons, List.not_mem_nil, or_false] at hk2
    rcases hk2 with e | e | e
    · rw [e]; exact (hE3.1 12 rfl).trans ((hE2.1 12 rfl).trans (hE1.1 12 rfl))
    · rw [e]; exact (hE3.1 13 rfl).trans ((hE2.1 13 rfl).trans (hE1.1 13 rfl))
    · rw [e]; exact (hE3.1 14 rfl).trans ((hE2.1 14 rfl).trans (hE1.1 14 rfl))
  have h93 : a3 93 = a0 93 := hE3.2.1.trans (hE2.2.1.trans hE1.2.1)
  have hq92 : g3.2 92 = g.2 92 := hE3.2.2.trans (hE2.2.2.trans hE1.2.2)
  have hs1 : iOK K tt (some (sx.1, f1, a1, g1)) := ⟨fI_at hI1.1 3040 (by decide) (by decide), fun i => hG1 109 i (Or.inr (Or.inr (Or.inr rfl)))⟩
  have his : iS i1 (some (sx.1, f1, a1, g1)) := by rw [hi]; exact ⟨hE1.1 3040 rfl, hE1.1 3046 rfl, hE1.1 3052 rfl, hE1.1 3057 rfl, hE1.1 3058 rfl⟩
  have hig : iG i1 f3 := by rw [hi]; exact ⟨(hE3.1 32 rfl).trans ((hE2.1 32 rfl).trans hp1), (hE3.1 38 rfl).trans ((hE2.1 38 rfl).trans hp2), (hE3.1 44 rfl).trans ((hE2.1 44 rfl).trans hp3), (hE3.1 49 rfl).trans ((hE2.1 49 rfl).trans hp4), (hE3.1 50 rfl).trans ((hE2.1 50 rfl).trans hp5)⟩
  have hpm : (xX K r f3 a3 g3 (sI K sx.1 f1 a1 g1 ++ (iW K i0 ++ tt))).Perm (xX K r f3 a3 g3 (iW K i0 ++ (sI K sx.1 f1 a1 g1 ++ tt))) := xX_pm (List.perm_append_comm_assoc _ _ _)
  exact kI_ret (v := 0) hx hb hr hlocks rfl hK hS dX11_back_56 ((f3, a3, g3), i0, some (sx.1, f1, a1, g1)) (va_P_pm hpm hP) (va_D_pm hpm hD) ⟨hI3, hG3, ho, hs1, by rw [hq92]; exact hgo, by rw [hq92]; exact hgk, hTL, h93, iS_rf _, his, Or.inr (Or.inr ⟨rfl, Or.inr ⟨ex, hig⟩⟩)⟩
set_option maxHeartbeats 4000000 in
set_option maxRecDepth 100000 in
theorem x_11_back (l : Launch) {D : va_G} {K : Nat → ClassId} (r : Nat → Nat) (f0 : Nat → Int32) (a0 : Nat → Nat → Int32) (g : xG) (i0 i1 : Option sX) (tt : va_W) (hI : xI f0 a0) (hG : gOK K g.2 tt) (h0 : iOK K tt i0) (h1 : iOK K tt i1) (hg0 : g.2 92 0 = iA i0) (hg1 : g.2 92 1 = iA i1) (x : Int32) : kIG l yX11_back (Cond.code yX11_back cX11_back 2 (some .int) :: kG) (rmD 8 21 197) D K [.ref (r 0), .int x] (xX K r f0 a0 g (iW K i0 ++ (iW K i1 ++ tt))) (fun v (u : xS × Option sX × Option sX) => xI u.1.1 u.1.2.1 ∧ gOK K u.1.2.2.2 tt ∧ iOK K tt u.2.1 ∧ iOK K tt u.2.2 ∧ u.1.2.2.2 92 0 = iA u.2.1 ∧ u.1.2.2.2 92 1 = iA u.2.2 ∧ (∀ k, [12, 13, 14].contains k = true → u.1.1 k = f0 k) ∧ u.1.2.1 93 = a0 93 ∧ iS i0 u.2.1 ∧ iS i1 u.2.2 ∧ bckP x v f0 u.1.1 i0 i1) (fun u => xX K r u.1.1 u.1.2.1 u.1.2.2 (iW K u.2.1 ++ (iW K u.2.2 ++ tt))) 21 197 := by
  refine kIE.of (cc := cX11_back) (maxL := 2) (ret := (some .int)) (by decide) rfl (Nat.le_of_ble_eq_true rfl) ?_
  intro p e s m below meth c A hx hb hr hml hown hts hlocks hnm hK hP hD hS hA hV ls hl
  have hg : ∀ w ∈ kG, w.before ([.ref (r 0), .int x] : List Value).toArray s = true := fun w h => hts w (List.mem_cons_of_mem _ h)
  have hown : s.vm.findClass RX11 = some m.cls := hown
  have hl : lv_has ls 2 [(0, .ref (r 0)), (1, .int x)] := hl
  by_cases q0 : x = 0
  · have hl : lv_has ls 2 [(0, .ref (r 0)), (1, .int 0)] := q0 ▸ hl
    refine lv_iload_n hx hb dX11_back_0 rfl (lv_at hl 1 rfl) ?_
    refine lv_if_lt (tgt := 9) hx hb dX11_back_1 (by decide) (fun c1 => absurd c1 (by decide +kernel)) (fun c1 => ?_)
    refine lv_iload_n hx hb dX11_back_4 rfl (lv_at hl 1 rfl) ?_
    refine lv_iconst (v := 2) hx hb dX11_back_5 (by decide) ?_
    refine lv_icmp_lt (tgt := 15) hx hb dX11_back_6 (by decide) (fun c2 => ?_) (fun c2 => absurd (by decide +kernel) c2)
    refine lv_aload_n hx hb dX11_back_15 rfl (lv_at hl 0 rfl) ?_
    refine va_get (D := D) (ci := 11) (v := .ref (r 92)) (C := RX11) (T := TX11) (N := 17) hx hb hg inC11 hown hK hP 0 rfl rfl 9 (by decide) (hg _ wt2_195) (fun _ h9 => h9) rfl dX11_back_16 ?_
    refine lv_iload_n hx hb dX11_back_19 rfl (lv_at hl 1 rfl) ?_
    refine va_aldq hx hb hK hP 92 4 rfl rfl (k_in (by decide +kernel)) dX11_back_20 ?_
    rw [cl_0]
    rcases opt_c i0 with hi | ⟨sx, hi⟩
    · have hgk : g.2 92 0 = none := by rw [hg0, hi]; rfl
      refine k_topn hgk ?_
      refine lv_ifnonnullN hx hb dX11_back_21 ?_
      refine lv_aload_n hx hb dX11_back_24 rfl (lv_at hl 0 rfl) ?_
      refine lv_bipush (v := (-2)) hx hb dX11_back_25 (by decide) ?_
      refine kIG.callW (As := [.int (-2)]) (rest := []) ⟨hx, hb, hml, hown, hg⟩ (x_11_refuse l r f0 a0 g (iW K i0 ++ (iW K i1 ++ tt)) tt mem_rr hI hG (-2)) (cwV 1 hg (kgV wt3_7 wt3_9 wp1_0 wt1_1 wt3_10) rfl rfl rfl (by decide +kernel) ⟨by decide, by decide⟩) hV hK hP hD hS hA 0 11 rfl rfl rfl hl.1 rfl (Nat.le_of_ble_eq_true rfl) dX11_back_27 ⟨by decide, by decide⟩ (fun v2 u2 H locs h2 hP hD hS => ?_)
      obtain ⟨f2, a2, g2⟩ := u2
      obtain ⟨-, hI2, hG2, hE2, hv2⟩ := h2
      refine k_top (z := (-2)) hv2 ?_
      refine W.widen (k := 21) (n := 197) (by decide) (by decide) ?_
      have hq92 : g2.2 92 = g.2 92 := hE2.2.2
      exact kI_ret (v := (-2)) hx hb hr hlocks rfl hK hS dX11_back_30 ((f2, a2, g2), i0, i1) hP hD ⟨hI2, hG2, h0, h1, by rw [hq92]; exact hg0, by rw [hq92]; exact hg1, (fun k hk => hE2.1 k (by have w := List.contains_iff_mem.mp hk; simp only [List.mem_cons, List.not_mem_nil, or_false] at w; rcases w with e | e | e <;> rw [e] <;> rfl)), hE2.2.1, iS_rf _, iS_rf _, Or.inr (Or.inl ⟨rfl, Or.inl ⟨q0, hi⟩, hE2.1 32 rfl, hE2.1 38 rfl, hE2.1 44 rfl, hE2.1 49 rfl, hE2.1 50 rfl⟩)⟩
    · have hgk : g.2 92 0 = some (sx.1 95) := by rw [hg0, hi]; rfl
      refine k_tops hgk ?_
      refine lv_ifnonnull (tgt := 31) hx hb dX11_back_21 (by decide) ?_
      have hP : va_P D vwCl (xX K r f0 a0 g (sI K sx.1 sx.2.1 sx.2.2.1 sx.2.2.2 ++ (iW K i1 ++ tt))) _ := (by rw [hi] at hP; exact hP)
      have hD : va_D A (xX K r f0 a0 g (sI K sx.1 sx.2.1 sx.2.2.1 sx.2.2.2 ++ (iW K i1 ++ tt))) := (by rw [hi] at hD; exact hD)
      have hs : iOK K tt (some sx) := hi ▸ h0
      refine W.widen (k := 21) (n := 197) (by decide) (by decide) ?_
      exact x_bck_t0 l hx hb hr hml hown hlocks hK hA hV (g := g) (i0 := i0) (i1 := i1) (sx := sx) q0 hg hI hG hi hs.1 hs.2 h1 hgk hg1 hP hD hS hl
  by_cases q1 : x = 1
  · have hl : lv_has ls 2 [(0, .ref (r 0)), (1, .int 1)] := q1 ▸ hl
    refine lv_iload_n hx hb dX11_back_0 rfl (lv_at hl 1 rfl) ?_
    refine lv_if_lt (tgt := 9) hx hb dX11_back_1 (by decide) (fun c1 => absurd c1 (by decide +kernel)) (fun c1 => ?_)
    refine lv_iload_n hx hb dX11_back_4 rfl (lv_at hl 1 rfl) ?_
    refine lv_iconst (v := 2) hx hb dX11_back_5 (by decide) ?_
    refine lv_icmp_lt (tgt := 15) hx hb dX11_back_6 (by decide) (fun c2 => ?_) (fun c2 => absurd (by decide +kernel) c2)
    refine lv_aload_n hx hb dX11_back_15 rfl (lv_at hl 0 rfl) ?_
    refine va_get (D := D) (ci := 11) (v := .ref (r 92)) (C := RX11) (T := TX11) (N := 17) hx hb hg inC11 hown hK hP 0 rfl rfl 9 (by decide) (hg _ wt2_195) (fun _ h9 => h9) rfl dX11_back_16 ?_
    refine lv_iload_n hx hb dX11_back_19 rfl (lv_at hl 1 rfl) ?_
    refine va_aldq hx hb hK hP 92 4 rfl rfl (k_in (by decide +kernel)) dX11_back_20 ?_
    rw [cl_1]
    rcases opt_c i1 with hi | ⟨sx, hi⟩
    · have hgk : g.2 92 1 = none := by rw [hg1, hi]; rfl
      refine k_topn hgk ?_
      refine lv_ifnonnullN hx hb dX11_back_21 ?_
      refine lv_aload_n hx hb dX11_back_24 rfl (lv_at hl 0 rfl) ?_
      refine lv_bipush (v := (-2)) hx hb dX11_back_25 (by decide) ?_
      refine kIG.callW (As := [.int (-2)]) (rest := []) ⟨hx, hb, hml, hown, hg⟩ (x_11_refuse l r f0 a0 g (iW K i0 ++ (iW K i1 ++ tt)) tt mem_rr hI hG (-2)) (cwV 1 hg (kgV wt3_7 wt3_9 wp1_0 wt1_1 wt3_10) rfl rfl rfl (by decide +kernel) ⟨by decide, by decide⟩) hV hK hP hD hS hA 0 11 rfl rfl rfl hl.1 rfl (Nat.le_of_ble_eq_true rfl) dX11_back_27 ⟨by decide, by decide⟩ (fun v2 u2 H locs h2 hP hD hS => ?_)
      obtain ⟨f2, a2, g2⟩ := u2
      obtain ⟨-, hI2, hG2, hE2, hv2⟩ := h2
      refine k_top (z := (-2)) hv2 ?_
      refine W.widen (k := 21) (n := 197) (by decide) (by decide) ?_
      have hq92 : g2.2 92 = g.2 92 := hE2.2.2
      exact kI_ret (v := (-2)) hx hb hr hlocks rfl hK hS dX11_back_30 ((f2, a2, g2), i0, i1) hP hD ⟨hI2, hG2, h0, h1, by rw [hq92]; exact hg0, by rw [hq92]; exact hg1, (fun k hk => hE2.1 k (by have w := List.contains_iff_mem.mp hk; simp only [List.mem_cons, List.not_mem_nil, or_false] at w; rcases w with e | e | e <;> rw [e] <;> rfl)), hE2.2.1, iS_rf _, iS_rf _, Or.inr (Or.inl ⟨rfl, Or.inr ⟨q1, hi⟩, hE2.1 32 rfl, hE2.1 38 rfl, hE2.1 44 rfl, hE2.1 49 rfl, hE2.1 50 rfl⟩)⟩
    · have hgk : g.2 92 1 = some (sx.1 95) := by rw [hg1, hi]; rfl
      refine k_tops hgk ?_
      refine lv_ifnonnull (tgt := 31) hx hb dX11_back_21 (by decide) ?_
      have hP : va_P D vwCl (xX K r f0 a0 g (sI K sx.1 sx.2.1 sx.2.2.1 sx.2.2.2 ++ (iW K i0 ++ tt))) _ := va_P_pm (xX_pm (List.perm_append_comm_assoc _ _ _)) (by rw [hi] at hP; exact hP)
      have hD : va_D A (xX K r f0 a0 g (sI K sx.1 sx.2.1 sx.2.2.1 sx.2.2.2 ++ (iW K i0 ++ tt))) := va_D_pm (xX_pm (List.perm_append_comm_assoc _ _ _)) (by rw [hi] at hD; exact hD)
      have hs : iOK K tt (some sx) := hi ▸ h1
      refine W.widen (k := 21) (n := 197) (by decide) (by decide) ?_
      exact x_bck_t1 l hx hb hr hml hown hlocks hK hA hV (g := g) (i0 := i0) (i1 := i1) (sx := sx) q1 hg hI hG hi hs.1 hs.2 h0 hgk hg0 hP hD hS hl
  have fin : ∀ (H : Heap) (locs : List Loc) (ls : Array Slot), va_P D vwCl (xX K r f0 a0 g (iW K i0 ++ (iW K i1 ++ tt))) H → va_D A (xX K r f0 a0 g (iW K i0 ++ (iW K i1 ++ tt))) → va_S A s.heap H locs → lv_has ls 2 [(0, .ref (r 0)), (1, .int x)] → W p l e (rmD 8 21 197) s m ([.ref (r 0), .int x] : List Value).toArray below meth c H locs 0 0 (kQi D (tysK K) (fun v (u : xS × Option sX × Option sX) => xI u.1.1 u.1.2.1 ∧ gOK K u.1.2.2.2 tt ∧ iOK K tt u.2.1 ∧ iOK K tt u.2.2 ∧ u.1.2.2.2 92 0 = iA u.2.1 ∧ u.1.2.2.2 92 1 = iA u.2.2 ∧ (∀ k, [12, 13, 14].contains k = true → u.1.1 k = f0 k) ∧ u.1.2.1 93 = a0 93 ∧ iS i0 u.2.1 ∧ iS i1 u.2.2 ∧ bckP x v f0 u.1.1 i0 i1) (fun u => xX K r u.1.1 u.1.2.1 u.1.2.2 (iW K u.2.1 ++ (iW K u.2.2 ++ tt))) A below ([.ref (r 0), .int x] : List Value).toArray s 21 197) (F0 m 9 ls []) := by
    intro H locs ls hP hD hS hl
    refine lv_aload_n hx hb dX11_back_9 rfl (lv_at hl 0 rfl) ?_
    refine lv_iconst (v := (-1)) hx hb dX11_back_10 (by decide) ?_
    refine kIG.callW (As := [.int (-1)]) (rest := []) ⟨hx, hb, hml, hown, hg⟩ (x_11_refuse l r f0 a0 g (iW K i0 ++ (iW K i1 ++ tt)) tt mem_rr hI hG (-1)) (cwV 1 hg (kgV wt3_7 wt3_9 wp1_0 wt1_1 wt3_10) rfl rfl rfl (by decide +kernel) ⟨by decide, by decide⟩) hV hK hP hD hS hA 0 11 rfl rfl rfl hl.1 rfl (Nat.le_of_ble_eq_true rfl) dX11_back_11 ⟨by decide, by decide⟩ (fun v2 u2 H locs h2 hP hD hS => ?_)
    obtain ⟨f2, a2, g2⟩ := u2
    obtain ⟨-, hI2, hG2, hE2, hv2⟩ := h2
    refine k_top (z := (-1)) hv2 ?_
    refine W.widen (k := 21) (n := 197) (by decide) (by decide) ?_
    have hq92 : g2.2 92 = g.2 92 := hE2.2.2
    exact kI_ret (v := (-1)) hx hb hr hlocks rfl hK hS dX11_back_14 ((f2, a2, g2), i0, i1) hP hD ⟨hI2, hG2, h0, h1, by rw [hq92]; exact hg0, by rw [hq92]; exact hg1, (fun k hk => hE2.1 k (by have w := List.contains_iff_mem.mp hk; simp only [List.mem_cons, List.not_mem_nil, or_false] at w; rcases w with e | e | e <;> rw [e] <;> rfl)), hE2.2.1, iS_rf _, iS_rf _, Or.inl ⟨rfl, no01 q0 q1, hE2.1 32 rfl, hE2.1 38 rfl, hE2.1 44 rfl, hE2.1 49 rfl, hE2.1 50 rfl⟩⟩
  refine lv_iload_n hx hb dX11_back_0 rfl (lv_at hl 1 rfl) ?_
  refine lv_if_lt (tgt := 9) hx hb dX11_back_1 (by decide) (fun c1 => fin _ _ _ hP hD hS hl) (fun c1 => ?_)
  refine lv_iload_n hx hb dX11_back_4 rfl (lv_at hl 1 rfl) ?_
  refine lv_iconst (v := 2) hx hb dX11_back_5 (by decide) ?_
  refine lv_icmp_lt (tgt := 15) hx hb dX11_back_6 (by decide) (fun c2 => absurd c2 (ge2 q0 q1 c1)) (fun c2 => fin _ _ _ hP hD hS hl)
