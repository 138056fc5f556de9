/-! THE JDK: Integer.getChars, append(int), charAt -/
def dTen : List Int32 := [48, 48, 48, 48, 48, 48, 48, 48, 48, 48, 49, 49, 49, 49, 49, 49, 49, 49, 49, 49, 50, 50, 50, 50, 50, 50, 50, 50, 50, 50, 51, 51, 51, 51, 51, 51, 51, 51, 51, 51, 52, 52, 52, 52, 52, 52, 52, 52, 52, 52, 53, 53, 53, 53, 53, 53, 53, 53, 53, 53, 54, 54, 54, 54, 54, 54, 54, 54, 54, 54, 55, 55, 55, 55, 55, 55, 55, 55, 55, 55, 56, 56, 56, 56, 56, 56, 56, 56, 56, 56, 57, 57, 57, 57, 57, 57, 57, 57, 57, 57]
def dOne : List Int32 := [48, 49, 50, 51, 52, 53, 54, 55, 56, 57, 48, 49, 50, 51, 52, 53, 54, 55, 56, 57, 48, 49, 50, 51, 52, 53, 54, 55, 56, 57, 48, 49, 50, 51, 52, 53, 54, 55, 56, 57, 48, 49, 50, 51, 52, 53, 54, 55, 56, 57, 48, 49, 50, 51, 52, 53, 54, 55, 56, 57, 48, 49, 50, 51, 52, 53, 54, 55, 56, 57, 48, 49, 50, 51, 52, 53, 54, 55, 56, 57, 48, 49, 50, 51, 52, 53, 54, 55, 56, 57, 48, 49, 50, 51, 52, 53, 54, 55, 56, 57]
theorem dTen_at : ∀ j, j < 100 → dTen.getD j 0 = nI (48 + j / 10 % 10) := by decide +kernel
theorem dOne_at : ∀ j, j < 100 → dOne.getD j 0 = nI (48 + j % 10) := by decide +kernel
theorem neg_div {w : Nat} (hw : w < 2 ^ 31) : (-nI w) / 100 = -nI (w / 100) := by
  apply Int32.toInt_inj.mp
  rw [i_divI (by rw [neg_toInt hw]; omega) (by decide), neg_toInt hw, neg_toInt (by omega)]
  rw [show (100 : Int32).toInt = 100 from rfl]
  split <;> omega
theorem neg_rem {w : Nat} (hw : w < 2 ^ 31) : (-nI (w / 100)) * 100 - (-nI w) = nI (w % 100) := by
  have a1 : (-nI (w / 100) : Int32).toInt = -((w / 100 : Nat) : Int) := neg_toInt (by omega)
  have a2 : (-nI w : Int32).toInt = -(w : Int) := neg_toInt hw
  have a3 : ((-nI (w / 100)) * 100 : Int32).toInt = -((w / 100 : Nat) : Int) * 100 := by rw [i_mulI (by rw [a1, show (100 : Int32).toInt = 100 from rfl]; omega) (by rw [a1, show (100 : Int32).toInt = 100 from rfl]; omega), a1]; rfl
  apply Int32.toInt_inj.mp
  rw [i_subI (by rw [a3, a2]; omega) (by rw [a3, a2]; omega), a3, a2, nI_toInt (by omega)]
  omega
theorem nI_dn9 {q : Nat} (h : 1 ≤ q) : nI q + -1 = nI (q - 1) := by
  have e : nI (q - 1) + 1 = nI q := by rw [nI_1]; congr 1; omega
  rw [← e, Int32.add_assoc, show (1 + -1 : Int32) = 0 from by decide, Int32.add_zero]
theorem dgF_app (w : Nat) : ∀ k, dgF w (k + 2) = dgF (w / 100) k ++ [nI (48 + w / 10 % 10), nI (48 + w % 10)]
  | 0 => by simp [dgF]
  | k + 1 => by
    rw [dgF, dgF_app w k, dgF, List.cons_append]
    congr 4
    rw [Nat.div_div_eq_div_mul, show 100 * 10 ^ k = 10 ^ (k + 2) by rw [Nat.pow_add]; omega]
theorem neg_gt {w k : Nat} (hw : w < 2 ^ 31) (hk : k < 2 ^ 31) : -nI k < -nI w ↔ w < k := by
  rw [i_lt, neg_toInt hw, neg_toInt hk]
  omega
theorem dgF_1 {w : Nat} (h : w < 10) : dgF w 1 = [nI (48 + w % 10)] := by simp [dgF]
theorem dgF_2 (w : Nat) : dgF w 2 = [nI (48 + w / 10 % 10), nI (48 + w % 10)] := by simp [dgF]
theorem nar_b9 : ∀ b, b < 128 → vp_nar .byte (nI b) = nI b := by decide +kernel
theorem nar_dg {r : Nat} : vp_nar .byte (nI (48 + r % 10)) = nI (48 + r % 10) := nar_b9 _ (by omega)
