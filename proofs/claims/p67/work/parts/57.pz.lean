/-! PURSES: their bounds -/
def Cz (c : Nat → Int32) : Prop := (0 ≤ (c 2).toInt ∧ (c 2).toInt ≤ 99) ∧ 0 ≤ (c 4).toInt ∧ (c 4).toInt ≤ 50
def Pz (U : Nat) (s : Nat → Int32) : Prop := (0 ≤ (s 4).toInt ∧ (s 4).toInt ≤ 5000) ∧ (0 ≤ (s 5).toInt ∧ (s 5).toInt ≤ 50) ∧ (0 ≤ (s 6).toInt ∧ (s 6).toInt ≤ 100) ∧ (0 ≤ (s 9).toInt ∧ (s 9).toInt ≤ 3) ∧ (¬ s 12 = 0 → (s 9).toInt ≤ 2) ∧ -(2125 * (U : Int)) - 16434 * (s 9).toInt ≤ (s 0).toInt ∧ (s 0).toInt ≤ 9999 + 2125 * (U : Int)
def Pb (U : Nat) (B : Bu) (sc : Nat) : Prop := Cz B.1 ∧ ∀ i, i < sc → Pz U (B.2.2 i)
theorem Pz.mono {U V : Nat} {s : Nat → Int32} (h : Pz U s) (hV : U ≤ V) : Pz V s := by
  obtain ⟨a, b, c, d, e, f, g⟩ := h
  exact ⟨a, b, c, d, e, by omega, by omega⟩
theorem Pb.mono {U V sc : Nat} {B : Bu} (h : Pb U B sc) (hV : U ≤ V) : Pb V B sc := ⟨h.1, fun i hi => (h.2 i hi).mono hV⟩
theorem Pz.eq {U : Nat} {s s' : Nat → Int32} (h : Pz U s) (e4 : s' 4 = s 4) (e5 : s' 5 = s 5) (e6 : s' 6 = s 6) (e9 : s' 9 = s 9) (e12 : s' 12 = s 12) (e0 : s' 0 = s 0) : Pz U s' := by
  unfold Pz
  rw [e4, e5, e6, e9, e12, e0]
  exact h
