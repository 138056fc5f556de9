theorem fd_n64 (a : Int32) {b : Int32} (hb : ¬ b = 0) : vf_n64 (FP.ddiv (FP.i2d a) (FP.i2d b)) := by
  have h1 : FP.Core.dIsNaN (FP.Core.i2d a) = false := by rw [Bool.eq_false_iff]; intro z; exact (FP.Core.i2d_fin a).ne_nan ((FP.Core.dIsNaN_iff _).mp z)
  have h2 : ¬ FP.Core.DZero (FP.Core.i2d b) := fun z => FP.Core.i2d_ne_zero hb ((FP.Core.zero_bits2 _).mp z)
  have h3 : FP.Core.dIsNaN (FP.Core.ddiv (FP.Core.i2d a) (FP.Core.i2d b)) = false := FP.Core.ddiv_out h1 (FP.Core.i2d_fin b) h2
  rw [FP.ddiv_core, FP.i2d_core]
  have h4 := mt (FP.Core.isNaN_bits _).mpr (by rw [h3]; decide)
  unfold vf_n64
  rw [UInt64.le_iff_toNat_le, UInt64.toNat_and]
  rw [show (0x7fffffffffffffff : UInt64).toNat = 2 ^ 63 - 1 from rfl, Nat.and_two_pow_sub_one_eq_mod]
  have e : (0x7ff0000000000000 : UInt64).toNat = 9218868437227405312 := rfl
  rw [e]
  omega
theorem fd_n32 (a : Int32) {b : Int32} (hb : ¬ b = 0) : vf_n32 (FP.fdiv (FP.i2f a) (FP.i2f b)) := by
  have h1 : FP.Core.fIsNaN (FP.Core.i2f a) = false := by rw [Bool.eq_false_iff]; intro z; exact (FP.Core.i2f_fin a).ne_nan ((FP.Core.fIsNaN_iff _).mp z)
  have h2 : ¬ FP.Core.FZero (FP.Core.i2f b) := fun z => FP.Core.i2f_ne_zero hb ((FP.Core.zero_bits232 _).mp z)
  have h3 : FP.Core.fIsNaN (FP.Core.fdiv (FP.Core.i2f a) (FP.Core.i2f b)) = false := FP.Core.fdiv_out h1 (FP.Core.i2f_fin b) h2
  rw [FP.fdiv_core, FP.i2f_core]
  have h4 := mt (FP.Core.isNaN_bits32 _).mpr (by rw [h3]; decide)
  unfold vf_n32
  rw [UInt32.le_iff_toNat_le, UInt32.toNat_and]
  rw [show (0x7fffffff : UInt32).toNat = 2 ^ 31 - 1 from rfl, Nat.and_two_pow_sub_one_eq_mod]
  have e : (0x7f800000 : UInt32).toNat = 2139095040 := rfl
  rw [e]
  omega
