theorem xX_in {K : Nat → ClassId} {r : Nat → Nat} {f : Nat → Int32} {a : Nat → Nat → Int32} {g : xG} {w tx : va_W} : (w ++ xX K r f a g tx).Perm (xX K r f a g (w ++ tx)) := by
  rw [xX_app, xX_app (tx := w ++ tx)]
  exact List.perm_append_comm_assoc _ _ _

