/-- decimal digits, the first first: w below 10 ^ k -/
def dgF (w : Nat) : Nat → List Int32
  | 0 => []
  | k + 1 => nI (48 + w / 10 ^ k % 10) :: dgF w k
def dgL (w : Nat) : Nat := if w < 10 then 1 else if w < 100 then 2 else if w < 1000 then 3 else if w < 10000 then 4 else if w < 100000 then 5 else if w < 1000000 then 6 else if w < 10000000 then 7 else if w < 100000000 then 8 else if w < 1000000000 then 9 else 10
theorem dgL_le (w : Nat) : 1 ≤ dgL w ∧ dgL w ≤ 10 := by unfold dgL; repeat' split <;> try omega
theorem dgF_len (w : Nat) : ∀ k, (dgF w k).length = k
  | 0 => rfl
  | k + 1 => by rw [dgF, List.length_cons, dgF_len w k]
theorem fd_n64 (a : Int32) {b : Int32} (hb : ¬ b = 0) : vf_n64 (FP.ddiv (FP.i2d a) (FP.i2d b)) := by
  have h1 : FP.Core.dIsNaN (FP.Core.i2d a) = false := by rw [Bool.eq_false_iff]; intro z; exact (FP.Core.i2d_fin a).ne_nan ((FP.Core.dIsNaN_iff _).mp z)
  have h2 : ¬ FP.Core.DZero (FP.Core.i2d b) := fun z => FP.Core.i2d_ne_zero hb ((FP.Core.zero_bits2 _).mp z)
  have h3 : FP.Core.dIsNaN (FP.Core.ddiv (FP.Core.i2d a) (FP.Core.i2d b)) = false := FP.Core.ddiv_out h1 (FP.Core.i2d_fin b) h2
  rw [FP.ddiv_core, FP.i2d_core]
  have h4 := mt (FP.Core.isNaN_bits _).mpr (by rw [h3]; decide)
  unfold vf_n64
  rw [UInt64.le_iff_toNat_le, UInt64.toNat_and]
  rw [show (0x7fffffffffffffff : UInt64).toNat = 2 ^ 63 - 1 from rfl, Nat.and_two_pow_sub_one_eq_mod]
  have e : (0x7ff0000000000000 : UInt64).toNat = 9218868437227405312 := rfl
  rw [e]
  omega
theorem fd_n32 (a : Int32) {b : Int32} (hb : ¬ b = 0) : vf_n32 (FP.fdiv (FP.i2f a) (FP.i2f b)) := by
  have h1 : FP.Core.fIsNaN (FP.Core.i2f a) = false := by rw [Bool.eq_false_iff]; intro z; exact (FP.Core.i2f_fin a).ne_nan ((FP.Core.fIsNaN_iff _).mp z)
  have h2 : ¬ FP.Core.FZero (FP.Core.i2f b) := fun z => FP.Core.i2f_ne_zero hb ((FP.Core.zero_bits232 _).mp z)
  have h3 : FP.Core.fIsNaN (FP.Core.fdiv (FP.Core.i2f a) (FP.Core.i2f b)) = false := FP.Core.fdiv_out h1 (FP.Core.i2f_fin b) h2
  rw [FP.fdiv_core, FP.i2f_core]
  have h4 := mt (FP.Core.isNaN_bits32 _).mpr (by rw [h3]; decide)
  unfold vf_n32
  rw [UInt32.le_iff_toNat_le, UInt32.toNat_and]
  rw [show (0x7fffffff : UInt32).toNat = 2 ^ 31 - 1 from rfl, Nat.and_two_pow_sub_one_eq_mod]
  have e : (0x7f800000 : UInt32).toNat = 2139095040 := rfl
  rw [e]
  omega
