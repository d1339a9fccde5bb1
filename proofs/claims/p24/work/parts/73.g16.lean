theorem pS_kb {k O : Nat → Int32} {N m s q : Nat} {x : Int32} (hN : N ≤ 10) (h : oDn k N O m) (hm : m ≤ s + 1) (hs : s + 1 < 2 ^ N) (hq : q ≤ N) (e : x.toInt = pSr k O s q) : kb 0 x 3628800 := by
  have hp := p2 hN
  have hb := pS_bd hN h hm (by omega) q hq
  have hmn := pB_mono s q (10 - q)
  rw [show q + (10 - q) = 10 by omega] at hmn
  have hk : pB s 10 ≤ oB s := chkB ⟨s, by omega⟩
  have hf : oB s ≤ 3628800 := (chkF ⟨s, by omega⟩).1
  exact ⟨by rw [e]; exact hb.1, by rw [e]; omega⟩