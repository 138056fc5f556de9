/-! FOUR BYTES IN AN INT -/
theorem or_add {a b s : Nat} (hb : b < 2 ^ s) (hA : 2 ^ s * a + b < 2 ^ 31) : nI (2 ^ s * a) ||| nI b = nI (2 ^ s * a + b) := by
  rw [Nat.two_pow_add_eq_or_of_lt hb a]
  refine Int32.toBitVec_inj.mp ?_
  rw [Int32.toBitVec_or]
  show BitVec.ofNat 32 _ ||| BitVec.ofNat 32 _ = BitVec.ofNat 32 _
  exact (BitVec.ofNat_or ..).symm
theorem to8 (V : Nat) : (nI V).toInt8.toInt32 = nI (V % 256) ∨ 128 ≤ V % 256 := by
  by_cases h : V % 256 < 128
  · left
    have e : (nI V).toInt8 = (nI (V % 256)).toInt8 := by
      refine Int8.toBitVec_inj.mp ?_
      show (BitVec.ofNat 32 V).signExtend 8 = (BitVec.ofNat 32 (V % 256)).signExtend 8
      rw [BitVec.signExtend_eq_setWidth_of_le _ (by decide), BitVec.signExtend_eq_setWidth_of_le _ (by decide)]
      refine BitVec.eq_of_toNat_eq ?_
      rw [BitVec.toNat_setWidth, BitVec.toNat_setWidth, BitVec.toNat_ofNat, BitVec.toNat_ofNat]
      omega
    rw [e]
    have k : ∀ c, c < 128 → (nI c).toInt8.toInt32 = nI c := by decide +kernel
    exact k _ h
  · right; omega
theorem xb {V s k : Nat} (hV : V < 2 ^ 31) (hs : (((nI s) &&& 31).toBitVec.smod 32).toNat = k) {c : Nat} (hc : c < 128) (e : V / 2 ^ k % 256 = c) : X_b (nI V) (nI s) = nI c := by
  unfold X_b
  rw [pk_shrN hV _ k hs]
  rcases to8 (V / 2 ^ k) with z | z
  · rw [z, e]
  · omega
theorem shl_c : ∀ c, c < 128 → (nI c <<< (nI 24 &&& 31) = nI (2 ^ 24 * c) ∧ nI c <<< (nI 16 &&& 31) = nI (2 ^ 16 * c) ∧ nI c <<< (nI 8 &&& 31) = nI (2 ^ 8 * c) ∧ nI c <<< (nI 0 &&& 31) = nI c) := by decide +kernel
/-- the word of bytes a, b, c, d -/
def W4 (a b c d : Nat) : Nat := 2 ^ 24 * a + 2 ^ 16 * b + 2 ^ 8 * c + d
theorem W4_four {T : Nat → Int32} {n a b c d : Nat} (ha : a < 128) (hb : b < 128) (hc : c < 128) (hd : d < 128) : X_four T n (nI (W4 a b c d)) = u1 (u1 (u1 (u1 T n (nI a)) (n + 1) (nI b)) (n + 2) (nI c)) (n + 3) (nI d) := by
  have hV : W4 a b c d < 2 ^ 31 := by unfold W4; omega
  unfold X_four
  rw [show X_b (nI (W4 a b c d)) 24 = nI a from xb (s := 24) (k := 24) hV (by decide) ha (by unfold W4; omega), show X_b (nI (W4 a b c d)) 16 = nI b from xb (s := 16) (k := 16) hV (by decide) hb (by unfold W4; omega), show X_b (nI (W4 a b c d)) 8 = nI c from xb (s := 8) (k := 8) hV (by decide) hc (by unfold W4; omega)]
  rcases to8 (W4 a b c d) with z | z
  · rw [z, show W4 a b c d % 256 = d by unfold W4; omega]
  · unfold W4 at z; omega
