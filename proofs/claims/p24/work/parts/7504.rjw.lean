/-! what is known of the numbers of orders -/
def rW (f : Nat → Int32) (a ea : Nat → Nat → Int32) : Prop := f 2786 = 0 ∨ wOR (ea 2) (kPn (ea 2)) (bM (upB (ea 2)) (kPn (ea 2))) (a 88)
def wE (k k' : Nat → Int32) : Prop := ∀ i, i < 10 ∨ (33 ≤ i ∧ i < 43) ∨ i = 102 → k' i = k i
section RW
variable {k k' O : Nat → Int32} {N up : Nat} {f f1 : Nat → Int32} {a a1 ea ea2 : Nat → Nat → Int32} {v : Int32}
theorem wE_rf (e : k' = k) : wE k k' := fun _ _ => by rw [e]
theorem wE_q (h : kQe k k') : wE k k' := fun i hi => h i (by omega)
theorem fB_w (h : wE k k') {s q : Nat} (hq : q < 10) : fB k' s q = fB k s q := by
  have e : (33 + nI q).toNatClampNeg = 33 + q := by
    have w : ∀ q : Fin 10, (33 + nI q.val).toNatClampNeg = 33 + q.val := by decide +kernel
    exact w ⟨q, hq⟩
  unfold fB mCF
  rw [e, h (33 + q) (by omega)]
theorem pSr_w (h : wE k k') {s : Nat} : ∀ q, q ≤ 10 → pSr k' O s q = pSr k O s q
  | 0, _ => rfl
  | q + 1, hq => by
    show pSr k' O s q + _ = pSr k O s q + _
    rw [pSr_w h q (by omega), fB_w h (by omega)]
theorem wO_k (h : wE k k') (hk : kK k) (hw : wOR k (kPn k) (bM (upB k) (kPn k)) O) : wOR k' (kPn k') (bM (upB k') (kPn k')) O := by
  have hN := (kPn_b hk).1
  have e1 : kPn k' = kPn k := by unfold kPn; rw [h 102 (Or.inr (Or.inr rfl))]
  have e2 : bM (upB k') (kPn k) = bM (upB k) (kPn k) := ce_bM _ (fun i hi => by unfold upB; rw [h (0 + i) (by omega)])
  rw [e1, e2]
  exact ⟨hw.1, fun s hs hu => by rw [pSr_w h _ hN]; exact hw.2 s hs hu⟩
theorem rW_k (h : rW f a ea) (hk : kK (ea 2)) (e1 : f1 2786 = f 2786) (e2 : a1 88 = a 88) (e : wE (ea 2) (ea2 2)) : rW f1 a1 ea2 := by
  unfold rW at *
  rw [e1, e2]
  exact h.imp id (wO_k e hk)
theorem rW_s (h : rW f a ea) (hk : kK (ea 2)) (hv : f1 2786 = 0 ∨ (v.toInt < 0 ∧ f1 2786 = f 2786)) (e2 : a1 88 = a 88) (e : v.toInt < 0 → wE (ea 2) (ea2 2)) : rW f1 a1 ea2 := by
  rcases hv with hv | ⟨hv, e1⟩
  · exact Or.inl hv
  · exact rW_k h hk e1 e2 (e hv)
theorem mE_wE {X : Nat → Bool} (h : ∀ i, X i = false → k' i = k i) (w : ∀ i, i < 107 → (i < 10 ∨ (33 ≤ i ∧ i < 43) ∨ i = 102) → X i = false) : wE k k' := fun i hi => h i (w i (by omega) hi)
theorem mTe_n {a1 : Nat → Int32} {P P' : pS} {ff : Nat → Int32} {aa : Nat → Nat → Int32} (h : mTe v ff aa a1 k P k' P') (n : v.toInt < 0) : aa 2 = k := by
  rcases h with ⟨_, _, _, h, _⟩ | ⟨h, _⟩
  · exact h
  · exact absurd n h
theorem snd_n {DD : Nat → tE} {P : pS} {x y : Int32} (hk : kK k) (n : (sndF DD k P x y).1 < 0) : (sndF DD k P x y).2.1 = k := by
  unfold sndF at *
  by_cases c1 : okB k x = true
  · rw [if_pos c1] at *
    by_cases c2 : okQ k y = true
    · rw [if_pos c2] at *
      by_cases c3 : rdB k y.toNatClampNeg = true
      · rw [if_pos c3] at *
        by_cases c4 : askF DD k 3 x y = 1
        · rw [if_pos c4]
        · rw [if_neg c4] at n
          have w := (kK_s hk 0 10 0 99 (by decide) (by decide) (cl_lt (n := 10) (okQ_i hk c2).1 (by decide))).1
          have n : (k (0 + y.toNatClampNeg)).toInt < 0 := n
          omega
      · rw [if_neg c3]
    · rw [if_neg c2]
  · rw [if_neg c1]
theorem rst_n {P : pS} {x : Int32} (hk : kK k) (n : (rstF k P x).1 < 0) : (rstF k P x).2.1 = k := by
  unfold rstF at *
  by_cases c1 : okB k x = true
  · rw [if_pos c1] at *
    by_cases c2 : k (16 + x.toNatClampNeg) = -1
    · rw [if_pos c2]
    · rw [if_neg c2] at n
      have w := (pl_0 hk (cl_lt (n := 6) (okB_i hk c1).1 (by decide)) c2).1
      have n : (k (16 + x.toNatClampNeg)).toInt < 0 := n
      omega
  · rw [if_neg c1]
theorem thr_n {P : pS} {y : Int32} (hk : kK k) (n : (thrF k P y).1 < 0) : (thrF k P y).2.1 = k := by
  unfold thrF at *
  by_cases c1 : okQ k y = true
  · rw [if_pos c1] at *
    by_cases c2 : thB k y (kPn k) = true
    · rw [if_pos c2] at n
      have w := (kK_s hk 23 10 0 99 (by decide) (by decide) (cl_lt (n := 10) (okQ_i hk c1).1 (by decide))).1
      have n : (k (23 + y.toNatClampNeg)).toInt < 0 := n
      omega
    · rw [if_neg c2]
  · rw [if_neg c1]
theorem tic_n {DD : Nat → tE} {P : pS} (n : (ticF DD k P).1 < 0) : (ticF DD k P).2.1 = k := by
  unfold ticF at *
  by_cases c1 : 999 ≤ (k 22).toInt
  · rw [if_pos c1]
  · rw [if_neg c1] at n
    have n : tkR k (tkF DD k) < 0 := n
    unfold tkR at n
    omega
theorem ud_n {P : pS} (hp : ∀ j, j < P.1 → 0 ≤ (P.2.1 j).toInt) (n : (udF k P).1 < 0) : (udF k P).2.1 = k := by
  unfold udF at *
  by_cases c : P.1 = 0
  · rw [if_pos c]
  · rw [if_neg c] at n
    have w := hp (P.1 - 1) (by omega)
    have n : (P.2.1 (P.1 - 1)).toInt < 0 := n
    omega
theorem row_n {ok : Nat → Nat → Prop} {t n n' c c' : Int32} (h : rowP ok t v n n' c c') (hb : kb 0 n 10) (ht : ¬ t = 0) : ¬ v.toInt < 0 := by
  rcases h with ⟨h, -⟩ | ⟨-, m, hr, h, -, -⟩
  · exact absurd h ht
  · have b1 := hb.1
    have w := rSt_ge _ _ hr
    omega
theorem ord_n {DD : Nat → tE} {Dt : tE} {P : pS} {R0 : Nat → Int32} {ff : Nat → Int32} {q1 q2 q3 q4 q5 q6 : Prop} (h : (v = -6 ∧ q1 ∧ q2 ∧ q3 ∧ q4 ∧ ea2 2 = ea 2 ∧ q5) ∨ (q6 ∧ ∃ k6 : Nat → Int32, (∀ i, i < 107 → k6 i = ea 2 i) ∧ lM k6 DD ∧ ordM DD Dt k6 P R0 v ff ea2)) (n : v.toInt < 0) : wE (ea 2) (ea2 2) := by
  rcases h with ⟨_, _, _, _, _, h, _⟩ | ⟨_, k6, h6, _, h⟩
  · exact wE_rf h
  · rcases h with ⟨s, _, h, _, _, _, _, _, _, g⟩ | ⟨c, _, _, _, _, _, h, _⟩
    · have w := g.2.2.1.1
      rw [← h] at w
      omega
    · rw [h]; exact wE_q h6
theorem bk_nn {x : Int32} {q1 q2 : Prop} {Q : Nat → Prop} (h : (v = -1 ∧ q1 ∧ ea2 2 = ea 2) ∨ (v = -2 ∧ ∃ kx : Nat, (kx : Int) = x.toInt ∧ kx < 2 ∧ Q kx ∧ ea2 2 = ea 2) ∨ (v = 0 ∧ q2)) (n : v.toInt < 0) : wE (ea 2) (ea2 2) := by
  rcases h with ⟨_, _, h⟩ | ⟨_, kx, _, _, _, h⟩ | ⟨h, _⟩
  · exact wE_rf h
  · exact wE_rf h
  · rw [h] at n; exact absurd n (by decide +kernel)
end RW
/-- all that holds between the calls -/
def rJ (K : Nat → ClassId) (f : Nat → Int32) (a : Nat → Nat → Int32) (g : xG) (i0 i1 : Option sX) (tt : va_W) (ef : Nat → Int32) (ea : Nat → Nat → Int32) : Prop := xI f a ∧ gOK K g.2 tt ∧ iOK K tt i0 ∧ iOK K tt i1 ∧ g.2 92 0 = iA i0 ∧ g.2 92 1 = iA i1 ∧ mI ef ea ∧ f 12 = ef 13 ∧ xIm i0 i1 (ea 4) ∧ xTq (a 93) (ea 11) ∧ f 14 = ef 6 ∧ f 13 = ef 14 ∧ f 15 = ef 37 ∧ f 16 = ef 0 ∧ rfE (a 94) (ea 1) ∧ rlS K tt f a (g.2 15) ef ea ∧ rlI K tt i0 (imK (ea 3) 0) ∧ rlI K tt i1 (imK (ea 3) 1) ∧ rW f a ea


