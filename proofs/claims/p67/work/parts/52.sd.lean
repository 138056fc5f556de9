def SbOk (h : Hp) (so vb : Nat) : Prop := hK h so = 9 ∧ hR h so 0 = some vb ∧ hK h vb = 21 ∧ hL h vb = 16
