/-! A SCRIPT'S COMMANDS, in the model and in the class -/
/-- a bureau with nothing in it -/
def E0 (B : Bu) : Prop := B.1 5 = 0 ∧ B.1 7 = nI 0 ∧ B.1 8 = nI 0
/-- a bureau that a script may run on -/
def Gq (B : Bu) (nw sc ni U : Nat) : Prop := Gd B nw sc ni U ∨ (nw = 0 ∧ sc = 0 ∧ ni = 0 ∧ E0 B)
theorem Gq.mono {B : Bu} {nw sc ni U V : Nat} (h : Gq B nw sc ni U) (hV : U ≤ V) : Gq B nw sc ni V := h.elim (fun z => Or.inl (z.mono hV)) Or.inr
