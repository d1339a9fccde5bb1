/-- all that holds between the calls -/
def rJ (K : Nat → ClassId) (f : Nat → Int32) (a : Nat → Nat → Int32) (g : xG) (i0 i1 : Option sX) (tt : va_W) (ef : Nat → Int32) (ea : Nat → Nat → Int32) : Prop := xI f a ∧ gOK K g.2 tt ∧ iOK K tt i0 ∧ iOK K tt i1 ∧ g.2 92 0 = iA i0 ∧ g.2 92 1 = iA i1 ∧ mI ef ea ∧ f 12 = ef 13 ∧ xIm i0 i1 (ea 4) ∧ xTq (a 93) (ea 11) ∧ f 14 = ef 6 ∧ f 13 = ef 14 ∧ f 15 = ef 37 ∧ f 16 = ef 0 ∧ rfE (a 94) (ea 1) ∧ rlS K tt f a (g.2 15) ef ea ∧ rlI K tt i0 (imK (ea 3) 0) ∧ rlI K tt i1 (imK (ea 3) 1)

