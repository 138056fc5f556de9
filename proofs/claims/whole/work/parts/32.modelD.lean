/-! THE MODEL: questions that go over shops or days, text in and out -/
def MiOk (h : Hp) (m mi : Nat) : Prop := hK h m = 8 ∧ hR h m 4 = some mi ∧ hK h mi = 21 ∧ hL h mi = 500
def MuOk (h : Hp) (m mo : Nat) : Prop := hR h m 15 = some mo ∧ hK h mo = 21 ∧ hL h mo = 200
theorem X_b0 (v : Int32) : X_b v 0 = v.toInt8.toInt32 := by unfold X_b; rw [sb_shr0]
/-- decimal digits, the first first: w below 10 ^ k -/
def dgF (w : Nat) : Nat → List Int32
  | 0 => []
  | k + 1 => nI (48 + w / 10 ^ k % 10) :: dgF w k
def dgL (w : Nat) : Nat := if w < 10 then 1 else if w < 100 then 2 else if w < 1000 then 3 else if w < 10000 then 4 else if w < 100000 then 5 else if w < 1000000 then 6 else if w < 10000000 then 7 else if w < 100000000 then 8 else if w < 1000000000 then 9 else 10
theorem dgL_le (w : Nat) : 1 ≤ dgL w ∧ dgL w ≤ 10 := by unfold dgL; repeat' split <;> try omega
theorem dgF_len (w : Nat) : ∀ k, (dgF w k).length = k
  | 0 => rfl
  | k + 1 => by rw [dgF, List.length_cons, dgF_len w k]
/-- the first bytes written, the others as they were -/
def Wr (O : Nat → Int32) (l : List Int32) : Nat → Int32 := fun j => if j < l.length then l.getD j 0 else O j
theorem Wr_nil (O : Nat → Int32) : Wr O [] = O := funext fun j => if_neg (by simp)
theorem Wr_app (O : Nat → Int32) (l : List Int32) (b : Int32) : u1 (Wr O l) l.length b = Wr O (l ++ [b]) := by
  funext j
  rw [u1_at]
  unfold Wr
  by_cases h : j = l.length
  · subst h
    rw [if_pos rfl, if_pos (by simp)]
    simp [List.getD]
  · rw [if_neg h]
    by_cases h2 : j < l.length
    · rw [if_pos h2, if_pos (by simp; omega)]
      simp [List.getD, List.getElem?_append_left h2]
    · rw [if_neg h2, if_neg (by simp; omega)]
def txt (p : Int32) (t s o : Bool) : List Int32 := (if p < 0 then [45] else []) ++ (dgF p.toInt.natAbs (dgL p.toInt.natAbs) ++ ((if t = true then [116] else [102]) ++ ((if s = true then [115] else []) ++ (if o = true then [] else [120]))))
theorem txt_len (p : Int32) (t s o : Bool) : (txt p t s o).length ≤ 14 := by
  have h := dgL_le p.toInt.natAbs
  unfold txt
  simp only [List.length_append, dgF_len]
  have a1 : (if p < 0 then [(45 : Int32)] else []).length ≤ 1 := by split <;> simp
  have a2 : (if t = true then [(116 : Int32)] else [102]).length = 1 := by split <;> rfl
  have a3 : (if s = true then [(115 : Int32)] else []).length ≤ 1 := by split <;> simp
  have a4 : (if o = true then [] else [(120 : Int32)]).length ≤ 1 := by split <;> simp
  omega
theorem nar_small {b : Nat} (h : b < 128) : vp_nar .byte (nI b).toInt8.toInt32 = nI b := by
  have : ∀ b, b < 128 → vp_nar .byte (nI b).toInt8.toInt32 = nI b := by decide +kernel
  exact this b h
theorem i_natAbs {p : Int32} (h : ¬ p < 0) : p = nI p.toInt.natAbs := by
  have h1 : ¬ p.toInt < 0 := fun z => h ((i_lt _ _).mpr z)
  refine Int32.toInt_inj.mp ?_
  have h2 : p.toInt < 2147483648 := p.toInt_lt
  rw [nI_toInt (by omega)]
  omega
theorem i_natAbsN {p : Int32} (h : p < 0) (hb : -2147483648 < p.toInt) : -p = nI p.toInt.natAbs := by
  have h1 : p.toInt < 0 := (i_lt _ _).mp h
  refine Int32.toInt_inj.mp ?_
  rw [nI_toInt (by omega), ← Int32.zero_sub, i_subI (by rw [i_0]; omega) (by rw [i_0]; omega), i_0]
  omega
theorem fd_n64 (a : Int32) {b : Int32} (hb : ¬ b = 0) : vf_n64 (FP.ddiv (FP.i2d a) (FP.i2d b)) := by
  have h1 : FP.Core.dIsNaN (FP.Core.i2d a) = false := by rw [Bool.eq_false_iff]; intro z; exact (FP.Core.i2d_fin a).ne_nan ((FP.Core.dIsNaN_iff _).mp z)
  have h2 : ¬ FP.Core.DZero (FP.Core.i2d b) := fun z => FP.Core.i2d_ne_zero hb ((FP.Core.zero_bits2 _).mp z)
  have h3 : FP.Core.dIsNaN (FP.Core.ddiv (FP.Core.i2d a) (FP.Core.i2d b)) = false := FP.Core.ddiv_out h1 (FP.Core.i2d_fin b) h2
  rw [FP.ddiv_core, FP.i2d_core]
  have h4 := mt (FP.Core.isNaN_bits _).mpr (by rw [h3]; decide)
  unfold vf_n64
  rw [UInt64.le_iff_toNat_le, UInt64.toNat_and]
  rw [show (0x7fffffffffffffff : UInt64).toNat = 2 ^ 63 - 1 from rfl, Nat.and_two_pow_sub_one_eq_mod]
  have e : (0x7ff0000000000000 : UInt64).toNat = 9218868437227405312 := rfl
  rw [e]
  omega
theorem fd_n32 (a : Int32) {b : Int32} (hb : ¬ b = 0) : vf_n32 (FP.fdiv (FP.i2f a) (FP.i2f b)) := by
  have h1 : FP.Core.fIsNaN (FP.Core.i2f a) = false := by rw [Bool.eq_false_iff]; intro z; exact (FP.Core.i2f_fin a).ne_nan ((FP.Core.fIsNaN_iff _).mp z)
  have h2 : ¬ FP.Core.FZero (FP.Core.i2f b) := fun z => FP.Core.i2f_ne_zero hb ((FP.Core.zero_bits232 _).mp z)
  have h3 : FP.Core.fIsNaN (FP.Core.fdiv (FP.Core.i2f a) (FP.Core.i2f b)) = false := FP.Core.fdiv_out h1 (FP.Core.i2f_fin b) h2
  rw [FP.fdiv_core, FP.i2f_core]
  have h4 := mt (FP.Core.isNaN_bits32 _).mpr (by rw [h3]; decide)
  unfold vf_n32
  rw [UInt32.le_iff_toNat_le, UInt32.toNat_and]
  rw [show (0x7fffffff : UInt32).toNat = 2 ^ 31 - 1 from rfl, Nat.and_two_pow_sub_one_eq_mod]
  have e : (0x7f800000 : UInt32).toNat = 2139095040 := rfl
  rw [e]
  omega
theorem d_MO_outputByte_0 : decode (mC m_MO_outputByte) 0 = .ok (.aload_n 0, 1) := by decide +kernel
theorem d_MO_outputByte_1 : decode (mC m_MO_outputByte) 1 = .ok (.iconst 0, 1) := by decide +kernel
theorem d_MO_outputByte_2 : decode (mC m_MO_outputByte) 2 = .ok (.putfield 52, 3) := by decide +kernel
theorem d_MO_outputByte_5 : decode (mC m_MO_outputByte) 5 = .ok (.iload_n 1, 1) := by decide +kernel
theorem d_MO_outputByte_6 : decode (mC m_MO_outputByte) 6 = .ok (.ifCond .lt 20, 3) := by decide +kernel
theorem d_MO_outputByte_9 : decode (mC m_MO_outputByte) 9 = .ok (.iload_n 1, 1) := by decide +kernel
theorem d_MO_outputByte_10 : decode (mC m_MO_outputByte) 10 = .ok (.aload_n 0, 1) := by decide +kernel
theorem d_MO_outputByte_11 : decode (mC m_MO_outputByte) 11 = .ok (.getfield 303, 3) := by decide +kernel
theorem d_MO_outputByte_14 : decode (mC m_MO_outputByte) 14 = .ok (.if_icmp .ge 12, 3) := by decide +kernel
theorem d_MO_outputByte_17 : decode (mC m_MO_outputByte) 17 = .ok (.aload_n 0, 1) := by decide +kernel
theorem d_MO_outputByte_18 : decode (mC m_MO_outputByte) 18 = .ok (.getfield 31, 3) := by decide +kernel
theorem d_MO_outputByte_21 : decode (mC m_MO_outputByte) 21 = .ok (.iload_n 1, 1) := by decide +kernel
theorem d_MO_outputByte_22 : decode (mC m_MO_outputByte) 22 = .ok (.baload, 1) := by decide +kernel
theorem d_MO_outputByte_23 : decode (mC m_MO_outputByte) 23 = .ok (.goto 4, 3) := by decide +kernel
theorem d_MO_outputByte_26 : decode (mC m_MO_outputByte) 26 = .ok (.iconst (-1), 1) := by decide +kernel
theorem d_MO_outputByte_27 : decode (mC m_MO_outputByte) 27 = .ok (.ireturn, 1) := by decide +kernel
theorem d_MO_writeShop_0 : decode (mC m_MO_writeShop) 0 = .ok (.aload_n 0, 1) := by decide +kernel
theorem d_MO_writeShop_1 : decode (mC m_MO_writeShop) 1 = .ok (.iload_n 1, 1) := by decide +kernel
theorem d_MO_writeShop_2 : decode (mC m_MO_writeShop) 2 = .ok (.invokevirtual 284, 3) := by decide +kernel
theorem d_MO_writeShop_5 : decode (mC m_MO_writeShop) 5 = .ok (.ifCond .eq 5, 3) := by decide +kernel
theorem d_MO_writeShop_8 : decode (mC m_MO_writeShop) 8 = .ok (.iconst 0, 1) := by decide +kernel
theorem d_MO_writeShop_9 : decode (mC m_MO_writeShop) 9 = .ok (.ireturn, 1) := by decide +kernel
theorem d_MO_writeShop_10 : decode (mC m_MO_writeShop) 10 = .ok (.aload_n 0, 1) := by decide +kernel
theorem d_MO_writeShop_11 : decode (mC m_MO_writeShop) 11 = .ok (.iload_n 1, 1) := by decide +kernel
theorem d_MO_writeShop_12 : decode (mC m_MO_writeShop) 12 = .ok (.iconst 0, 1) := by decide +kernel
theorem d_MO_writeShop_13 : decode (mC m_MO_writeShop) 13 = .ok (.invokevirtual 69, 3) := by decide +kernel
theorem d_MO_writeShop_16 : decode (mC m_MO_writeShop) 16 = .ok (.istore_n 2, 1) := by decide +kernel
theorem d_MO_writeShop_17 : decode (mC m_MO_writeShop) 17 = .ok (.aload_n 0, 1) := by decide +kernel
theorem d_MO_writeShop_18 : decode (mC m_MO_writeShop) 18 = .ok (.iconst 0, 1) := by decide +kernel
theorem d_MO_writeShop_19 : decode (mC m_MO_writeShop) 19 = .ok (.putfield 303, 3) := by decide +kernel
theorem d_MO_writeShop_22 : decode (mC m_MO_writeShop) 22 = .ok (.iload_n 2, 1) := by decide +kernel
theorem d_MO_writeShop_23 : decode (mC m_MO_writeShop) 23 = .ok (.ifCond .ge 9, 3) := by decide +kernel
theorem d_MO_writeShop_26 : decode (mC m_MO_writeShop) 26 = .ok (.aload_n 0, 1) := by decide +kernel
theorem d_MO_writeShop_27 : decode (mC m_MO_writeShop) 27 = .ok (.bipush 45, 2) := by decide +kernel
theorem d_MO_writeShop_29 : decode (mC m_MO_writeShop) 29 = .ok (.invokevirtual 306, 3) := by decide +kernel
theorem d_MO_writeShop_32 : decode (mC m_MO_writeShop) 32 = .ok (.aload_n 0, 1) := by decide +kernel
theorem d_MO_writeShop_33 : decode (mC m_MO_writeShop) 33 = .ok (.iload_n 2, 1) := by decide +kernel
theorem d_MO_writeShop_34 : decode (mC m_MO_writeShop) 34 = .ok (.ifCond .ge 8, 3) := by decide +kernel
theorem d_MO_writeShop_37 : decode (mC m_MO_writeShop) 37 = .ok (.iload_n 2, 1) := by decide +kernel
theorem d_MO_writeShop_38 : decode (mC m_MO_writeShop) 38 = .ok (.ineg, 1) := by decide +kernel
theorem d_MO_writeShop_39 : decode (mC m_MO_writeShop) 39 = .ok (.goto 4, 3) := by decide +kernel
theorem d_MO_writeShop_42 : decode (mC m_MO_writeShop) 42 = .ok (.iload_n 2, 1) := by decide +kernel
theorem d_MO_writeShop_43 : decode (mC m_MO_writeShop) 43 = .ok (.invokevirtual 309, 3) := by decide +kernel
theorem d_MO_writeShop_46 : decode (mC m_MO_writeShop) 46 = .ok (.aload_n 0, 1) := by decide +kernel
theorem d_MO_writeShop_47 : decode (mC m_MO_writeShop) 47 = .ok (.aload_n 0, 1) := by decide +kernel
theorem d_MO_writeShop_48 : decode (mC m_MO_writeShop) 48 = .ok (.iload_n 1, 1) := by decide +kernel
theorem d_MO_writeShop_49 : decode (mC m_MO_writeShop) 49 = .ok (.invokevirtual 99, 3) := by decide +kernel
theorem d_MO_writeShop_52 : decode (mC m_MO_writeShop) 52 = .ok (.ifCond .eq 8, 3) := by decide +kernel
theorem d_MO_writeShop_55 : decode (mC m_MO_writeShop) 55 = .ok (.bipush 116, 2) := by decide +kernel
theorem d_MO_writeShop_57 : decode (mC m_MO_writeShop) 57 = .ok (.goto 5, 3) := by decide +kernel
theorem d_MO_writeShop_60 : decode (mC m_MO_writeShop) 60 = .ok (.bipush 102, 2) := by decide +kernel
theorem d_MO_writeShop_62 : decode (mC m_MO_writeShop) 62 = .ok (.invokevirtual 306, 3) := by decide +kernel
theorem d_MO_writeShop_65 : decode (mC m_MO_writeShop) 65 = .ok (.aload_n 0, 1) := by decide +kernel
theorem d_MO_writeShop_66 : decode (mC m_MO_writeShop) 66 = .ok (.iload_n 1, 1) := by decide +kernel
theorem d_MO_writeShop_67 : decode (mC m_MO_writeShop) 67 = .ok (.invokevirtual 103, 3) := by decide +kernel
theorem d_MO_writeShop_70 : decode (mC m_MO_writeShop) 70 = .ok (.ifCond .eq 9, 3) := by decide +kernel
theorem d_MO_writeShop_73 : decode (mC m_MO_writeShop) 73 = .ok (.aload_n 0, 1) := by decide +kernel
theorem d_MO_writeShop_74 : decode (mC m_MO_writeShop) 74 = .ok (.bipush 115, 2) := by decide +kernel
theorem d_MO_writeShop_76 : decode (mC m_MO_writeShop) 76 = .ok (.invokevirtual 306, 3) := by decide +kernel
theorem d_MO_writeShop_79 : decode (mC m_MO_writeShop) 79 = .ok (.aload_n 0, 1) := by decide +kernel
theorem d_MO_writeShop_80 : decode (mC m_MO_writeShop) 80 = .ok (.iload_n 1, 1) := by decide +kernel
theorem d_MO_writeShop_81 : decode (mC m_MO_writeShop) 81 = .ok (.invokevirtual 115, 3) := by decide +kernel
theorem d_MO_writeShop_84 : decode (mC m_MO_writeShop) 84 = .ok (.ifCond .ne 9, 3) := by decide +kernel
theorem d_MO_writeShop_87 : decode (mC m_MO_writeShop) 87 = .ok (.aload_n 0, 1) := by decide +kernel
theorem d_MO_writeShop_88 : decode (mC m_MO_writeShop) 88 = .ok (.bipush 120, 2) := by decide +kernel
theorem d_MO_writeShop_90 : decode (mC m_MO_writeShop) 90 = .ok (.invokevirtual 306, 3) := by decide +kernel
theorem d_MO_writeShop_93 : decode (mC m_MO_writeShop) 93 = .ok (.aload_n 0, 1) := by decide +kernel
theorem d_MO_writeShop_94 : decode (mC m_MO_writeShop) 94 = .ok (.getfield 303, 3) := by decide +kernel
theorem d_MO_writeShop_97 : decode (mC m_MO_writeShop) 97 = .ok (.ireturn, 1) := by decide +kernel
theorem d_MO_emit_0 : decode (mC m_MO_emit) 0 = .ok (.aload_n 0, 1) := by decide +kernel
theorem d_MO_emit_1 : decode (mC m_MO_emit) 1 = .ok (.getfield 31, 3) := by decide +kernel
theorem d_MO_emit_4 : decode (mC m_MO_emit) 4 = .ok (.aload_n 0, 1) := by decide +kernel
theorem d_MO_emit_5 : decode (mC m_MO_emit) 5 = .ok (.getfield 303, 3) := by decide +kernel
theorem d_MO_emit_8 : decode (mC m_MO_emit) 8 = .ok (.iload_n 1, 1) := by decide +kernel
theorem d_MO_emit_9 : decode (mC m_MO_emit) 9 = .ok (.i2b, 1) := by decide +kernel
theorem d_MO_emit_10 : decode (mC m_MO_emit) 10 = .ok (.bastore, 1) := by decide +kernel
theorem d_MO_emit_11 : decode (mC m_MO_emit) 11 = .ok (.aload_n 0, 1) := by decide +kernel
theorem d_MO_emit_12 : decode (mC m_MO_emit) 12 = .ok (.dup, 1) := by decide +kernel
theorem d_MO_emit_13 : decode (mC m_MO_emit) 13 = .ok (.getfield 303, 3) := by decide +kernel
theorem d_MO_emit_16 : decode (mC m_MO_emit) 16 = .ok (.iconst 1, 1) := by decide +kernel
theorem d_MO_emit_17 : decode (mC m_MO_emit) 17 = .ok (.iadd, 1) := by decide +kernel
theorem d_MO_emit_18 : decode (mC m_MO_emit) 18 = .ok (.putfield 303, 3) := by decide +kernel
theorem d_MO_emit_21 : decode (mC m_MO_emit) 21 = .ok (.return_, 1) := by decide +kernel
theorem d_MO_emitNumber_0 : decode (mC m_MO_emitNumber) 0 = .ok (.iconst 1, 1) := by decide +kernel
theorem d_MO_emitNumber_1 : decode (mC m_MO_emitNumber) 1 = .ok (.istore_n 2, 1) := by decide +kernel
theorem d_MO_emitNumber_2 : decode (mC m_MO_emitNumber) 2 = .ok (.iload_n 1, 1) := by decide +kernel
theorem d_MO_emitNumber_3 : decode (mC m_MO_emitNumber) 3 = .ok (.iload_n 2, 1) := by decide +kernel
theorem d_MO_emitNumber_4 : decode (mC m_MO_emitNumber) 4 = .ok (.idiv, 1) := by decide +kernel
theorem d_MO_emitNumber_5 : decode (mC m_MO_emitNumber) 5 = .ok (.bipush 10, 2) := by decide +kernel
theorem d_MO_emitNumber_7 : decode (mC m_MO_emitNumber) 7 = .ok (.if_icmp .lt 11, 3) := by decide +kernel
theorem d_MO_emitNumber_10 : decode (mC m_MO_emitNumber) 10 = .ok (.iload_n 2, 1) := by decide +kernel
theorem d_MO_emitNumber_11 : decode (mC m_MO_emitNumber) 11 = .ok (.bipush 10, 2) := by decide +kernel
theorem d_MO_emitNumber_13 : decode (mC m_MO_emitNumber) 13 = .ok (.imul, 1) := by decide +kernel
theorem d_MO_emitNumber_14 : decode (mC m_MO_emitNumber) 14 = .ok (.istore_n 2, 1) := by decide +kernel
theorem d_MO_emitNumber_15 : decode (mC m_MO_emitNumber) 15 = .ok (.goto (-13), 3) := by decide +kernel
theorem d_MO_emitNumber_18 : decode (mC m_MO_emitNumber) 18 = .ok (.iload_n 2, 1) := by decide +kernel
theorem d_MO_emitNumber_19 : decode (mC m_MO_emitNumber) 19 = .ok (.ifCond .le 24, 3) := by decide +kernel
theorem d_MO_emitNumber_22 : decode (mC m_MO_emitNumber) 22 = .ok (.aload_n 0, 1) := by decide +kernel
theorem d_MO_emitNumber_23 : decode (mC m_MO_emitNumber) 23 = .ok (.bipush 48, 2) := by decide +kernel
theorem d_MO_emitNumber_25 : decode (mC m_MO_emitNumber) 25 = .ok (.iload_n 1, 1) := by decide +kernel
theorem d_MO_emitNumber_26 : decode (mC m_MO_emitNumber) 26 = .ok (.iload_n 2, 1) := by decide +kernel
theorem d_MO_emitNumber_27 : decode (mC m_MO_emitNumber) 27 = .ok (.idiv, 1) := by decide +kernel
theorem d_MO_emitNumber_28 : decode (mC m_MO_emitNumber) 28 = .ok (.bipush 10, 2) := by decide +kernel
theorem d_MO_emitNumber_30 : decode (mC m_MO_emitNumber) 30 = .ok (.irem, 1) := by decide +kernel
theorem d_MO_emitNumber_31 : decode (mC m_MO_emitNumber) 31 = .ok (.iadd, 1) := by decide +kernel
theorem d_MO_emitNumber_32 : decode (mC m_MO_emitNumber) 32 = .ok (.invokevirtual 306, 3) := by decide +kernel
theorem d_MO_emitNumber_35 : decode (mC m_MO_emitNumber) 35 = .ok (.iload_n 2, 1) := by decide +kernel
theorem d_MO_emitNumber_36 : decode (mC m_MO_emitNumber) 36 = .ok (.bipush 10, 2) := by decide +kernel
theorem d_MO_emitNumber_38 : decode (mC m_MO_emitNumber) 38 = .ok (.idiv, 1) := by decide +kernel
theorem d_MO_emitNumber_39 : decode (mC m_MO_emitNumber) 39 = .ok (.istore_n 2, 1) := by decide +kernel
theorem d_MO_emitNumber_40 : decode (mC m_MO_emitNumber) 40 = .ok (.goto (-22), 3) := by decide +kernel
theorem d_MO_emitNumber_43 : decode (mC m_MO_emitNumber) 43 = .ok (.return_, 1) := by decide +kernel
theorem aw_step {E : En} {h : Hp} {m mi : Nat} {c T : Nat → Int32} {R : List (Nat × (Nat → Int32))} {n : Nat} {v s s' : Int32} {P : Option Value → Hp → Prop} {X : String → Hp → Prop} (hM : MiOk h m mi) (nd : (m :: mi :: R.map Prod.fst).Nodup) (hn5 : c 5 = nI n) (hn : n < 500) (hs : ¬ s < 0) (e : s + (-8) = s')
    (kk : G E m_MO_appendWord 3 [(2, .int s'), (0, .ref m), (1, .int v)] [] (wL h ((m, u1 c 5 (nI (n + 1))) :: (mi, u1 T n (X_b v s)) :: R)) 0 0 P X) : G E m_MO_appendWord 3 [(2, .int s), (0, .ref m), (1, .int v)] [] (wL h ((m, c) :: (mi, T) :: R)) 0 0 P X := by
  obtain ⟨k_m, r_m_4, k_mi, l_mi⟩ := id hM
  refine g_iload_n (pc := 3) d_MO_appendWord_3 rfl 0 rfl ?_
  refine g_if_lt (pc := 4) (tgt := 36) d_MO_appendWord_4 (by decide) (fun c_4 => ?_) (fun c_4 => ?_)
  · exact absurd c_4 hs
  · skip
    refine g_aload_n (pc := 7) d_MO_appendWord_7 rfl 1 rfl ?_
    refine g_getR (pc := 8) (ci := 7) (f := 4) (b := mi) rfl r_m_4 d_MO_appendWord_8 fl_MO_17 (by decide) k_m ?_
    refine g_aload_n (pc := 11) d_MO_appendWord_11 rfl 1 rfl ?_
    refine g_lgI0 (pc := 12) (ci := 7) (f := 5) rfl d_MO_appendWord_12 fl_MO_151 (by decide) k_m nd ?_
    refine g_top hn5 ?_
    refine g_iload_n (pc := 15) d_MO_appendWord_15 rfl 2 rfl ?_
    refine g_iload_n (pc := 16) d_MO_appendWord_16 rfl 0 rfl ?_
    refine g_ishr (pc := 17) d_MO_appendWord_17 ?_
    refine g_i2b (pc := 18) d_MO_appendWord_18 ?_
    refine g_lbE1 (pc := 19) (j := n) (hg := congrArg (u1 T n) (nar_b _)) d_MO_appendWord_19 k_mi l_mi (by first | assumption | omega | decide) (by decide) nd ?_
    refine g_aload_n (pc := 20) d_MO_appendWord_20 rfl 1 rfl ?_
    refine g_dup (pc := 21) d_MO_appendWord_21 rfl ?_
    refine g_lgI0 (pc := 22) (ci := 7) (f := 5) rfl d_MO_appendWord_22 fl_MO_151 (by decide) k_m nd ?_
    refine g_top hn5 ?_
    refine g_iconst (pc := 25) (v := 1) d_MO_appendWord_25 (by decide) ?_
    refine g_iadd (pc := 26) d_MO_appendWord_26 ?_
    refine g_top (nI_1 n) ?_
    refine g_lpI0 (pc := 27) (ci := 7) (f := 5) rfl d_MO_appendWord_27 fl_MO_151 (fun q hq => by cases hq; exact rfl) rfl rfl (by decide) k_m nd ?_
    obtain ⟨x_1, hx_1⟩ : ∃ y : Int32, y = s + (-8) := ⟨_, rfl⟩
    refine g_iinc (pc := 30) (w := 0) (v := x_1) (lv' := [(2, .int x_1), (0, .ref m), (1, .int v)]) d_MO_appendWord_30 rfl (by rw [hx_1]; rfl) (by decide) rfl ?_
    refine g_goto (pc := 33) (tgt := 3) d_MO_appendWord_33 (by decide) ?_
    rw [e] at hx_1
    clear hn5
    subst hx_1
    exact kk
set_option maxRecDepth 20000 in
theorem cm_MO_appendWord {E : En} {h : Hp} {m mi : Nat} {c T : Nat → Int32} {R : List (Nat × (Nat → Int32))} {n : Nat} {v : Int32} (hM : MiOk h m mi) (nd : (m :: mi :: R.map Prod.fst).Nodup) (hn5 : c 5 = nI n) (hn : n + 4 ≤ 500) : CR E m_MO_appendWord [.ref m, .int v] (wL h ((m, c) :: (mi, T) :: R)) (none) (wL h ((m, (u1 c 5 (nI (n + 4)))) :: (mi, (X_four T n v)) :: R)) := by
  refine ct_of rfl (by decide +kernel) (Nat.le_of_ble_eq_true rfl) ?_
  show G E m_MO_appendWord 0 [(0, .ref m), (1, .int v)] [] (wL h ((m, c) :: (mi, T) :: R)) 0 0 _ noX
  obtain ⟨k_m, r_m_4, k_mi, l_mi⟩ := id hM
  refine g_bipush (pc := 0) (v := 24) d_MO_appendWord_0 (by decide) ?_
  refine g_istore_n (pc := 2) (lv' := [(2, .int 24), (0, .ref m), (1, .int v)]) d_MO_appendWord_2 rfl (by decide) rfl ?_
  refine aw_step (s := 24) (s' := 16) hM nd hn5 (by omega) (by decide) (by decide) ?_
  refine aw_step (s := 16) (s' := 8) (n := n + 1) hM nd rfl (by omega) (by decide) (by decide) ?_
  refine aw_step (s := 8) (s' := 0) (n := n + 2) hM nd rfl (by omega) (by decide) (by decide) ?_
  refine aw_step (s := 0) (s' := -8) (n := n + 3) hM nd rfl (by omega) (by decide) (by decide) ?_
  refine g_iload_n (pc := 3) d_MO_appendWord_3 rfl 0 rfl ?_
  refine g_if_lt (pc := 4) (tgt := 36) d_MO_appendWord_4 (by decide) (fun _ => ?_) (fun z => absurd (by decide) z)
  refine g_vret (pc := 36) d_MO_appendWord_36 rfl ?_
  refine ⟨rfl, ?_⟩
  unfold X_four
  rw [u1_u1, u1_u1, u1_u1, X_b0]
theorem cm_ti_t {E : En} {h : Hp} {m : Nat} {c : Nat → Int32} {R : List (Nat × (Nat → Int32))} {w : Int32} (k_m : hK h m = 8) (nd : (m :: R.map Prod.fst).Nodup) : CR E m_MO_throwsIf [.ref m, .int 1, .int w] (wL h ((m, c) :: R)) (some (.int 1)) (wL h ((m, u1 c 17 w) :: R)) := cm_MO_throwsIf_t k_m nd
set_option maxRecDepth 20000 in
theorem cm_MO_append {E : En} {h : Hp} {m mi : Nat} {c T : Nat → Int32} {R : List (Nat × (Nat → Int32))} {n : Nat} {a1 a2 a3 a4 a5 : Int32} (hM : MiOk h m mi) (nd : (m :: mi :: R.map Prod.fst).Nodup) (hn5 : c 5 = nI n) (hn : n + 20 ≤ 500) : CR E m_MO_append [.ref m, .int a1, .int a2, .int a3, .int a4, .int a5] (wL h ((m, c) :: (mi, T) :: R)) (some (.int (nI (n + 20)))) (wL h ((m, (u1 (u1 c 17 0) 5 (nI (n + 20)))) :: (mi, (X_four (X_four (X_four (X_four (X_four T n a1) (n + 4) a2) (n + 8) a3) (n + 12) a4) (n + 16) a5)) :: R)) := by
  refine ct_of rfl (by decide +kernel) (Nat.le_of_ble_eq_true rfl) ?_
  show G E m_MO_append 0 [(0, .ref m), (1, .int a1), (2, .int a2), (3, .int a3), (4, .int a4), (5, .int a5)] [] (wL h ((m, c) :: (mi, T) :: R)) 0 0 _ noX
  obtain ⟨k_m, r_m_4, k_mi, l_mi⟩ := id hM
  refine g_aload_n (pc := 0) d_MO_append_0 rfl 0 rfl ?_
  refine g_iconst (pc := 1) (v := 0) d_MO_append_1 (by decide) ?_
  refine g_lpI0 (pc := 2) (ci := 7) (f := 17) rfl d_MO_append_2 fl_MO_52 (fun q hq => by cases hq; exact rfl) rfl rfl (by decide) k_m nd ?_
  refine g_aload_n (pc := 5) d_MO_append_5 rfl 0 rfl ?_
  refine g_aload_n (pc := 6) d_MO_append_6 rfl 0 rfl ?_
  refine g_lgI0 (pc := 7) (ci := 7) (f := 5) rfl d_MO_append_7 fl_MO_151 (by decide) k_m nd ?_
  refine g_bipush (pc := 10) (v := 20) d_MO_append_10 (by decide) ?_
  refine g_iadd (pc := 12) d_MO_append_12 ?_
  refine g_top (y := nI (n + 20)) (by rw [show u1 c 17 0 5 = nI n from hn5]; exact nI_add n 20) ?_
  refine g_sipush (pc := 13) (v := 500) d_MO_append_13 (by decide) ?_
  refine g_icmp_le (pc := 16) (tgt := 23) d_MO_append_16 (by decide) (fun c_16 => ?_) (fun c_16 => ?_)
  · skip
    refine g_iconst (pc := 23) (v := 0) d_MO_append_23 (by decide) ?_
    refine g_iconst (pc := 24) (v := 1) d_MO_append_24 (by decide) ?_
    refine g_cV1 (pc := 25) (ci := 7) (As := [.int _, .int _]) d_MO_append_25 rfl mv_MO_throwsIf st_MO_append_154 rfl rfl (by decide) rfl rfl (Nat.le_of_ble_eq_true rfl) k_m (cm_MO_throwsIf_f k_m nd) ?_
    refine g_if_eq (pc := 28) (tgt := 33) d_MO_append_28 (by decide) (fun c_28 => ?_) (fun c_28 => ?_)
    · skip
      refine g_aload_n (pc := 33) d_MO_append_33 rfl 0 rfl ?_
      refine g_iload_n (pc := 34) d_MO_append_34 rfl 1 rfl ?_
      refine g_cV0 (pc := 35) (ci := 7) (As := [.int _]) d_MO_append_35 rfl mv_MO_appendWord st_MO_append_158 rfl rfl (by decide) rfl rfl (Nat.le_of_ble_eq_true rfl) k_m (cm_MO_appendWord (n := n) hM nd hn5 (by omega)) ?_
      refine g_aload_n (pc := 38) d_MO_append_38 rfl 0 rfl ?_
      refine g_iload_n (pc := 39) d_MO_append_39 rfl 2 rfl ?_
      refine g_cV0 (pc := 40) (ci := 7) (As := [.int _]) d_MO_append_40 rfl mv_MO_appendWord st_MO_append_158 rfl rfl (by decide) rfl rfl (Nat.le_of_ble_eq_true rfl) k_m (cm_MO_appendWord (n := n + 4) hM nd rfl (by omega)) ?_
      refine g_aload_n (pc := 43) d_MO_append_43 rfl 0 rfl ?_
      refine g_iload_n (pc := 44) d_MO_append_44 rfl 3 rfl ?_
      refine g_cV0 (pc := 45) (ci := 7) (As := [.int _]) d_MO_append_45 rfl mv_MO_appendWord st_MO_append_158 rfl rfl (by decide) rfl rfl (Nat.le_of_ble_eq_true rfl) k_m (cm_MO_appendWord (n := n + 8) hM nd rfl (by omega)) ?_
      refine g_aload_n (pc := 48) d_MO_append_48 rfl 0 rfl ?_
      refine g_iload (pc := 49) d_MO_append_49 4 rfl ?_
      refine g_cV0 (pc := 51) (ci := 7) (As := [.int _]) d_MO_append_51 rfl mv_MO_appendWord st_MO_append_158 rfl rfl (by decide) rfl rfl (Nat.le_of_ble_eq_true rfl) k_m (cm_MO_appendWord (n := n + 12) hM nd rfl (by omega)) ?_
      refine g_aload_n (pc := 54) d_MO_append_54 rfl 0 rfl ?_
      refine g_iload (pc := 55) d_MO_append_55 5 rfl ?_
      refine g_cV0 (pc := 57) (ci := 7) (As := [.int _]) d_MO_append_57 rfl mv_MO_appendWord st_MO_append_158 rfl rfl (by decide) rfl rfl (Nat.le_of_ble_eq_true rfl) k_m (cm_MO_appendWord (n := n + 16) hM nd rfl (by omega)) ?_
      refine g_aload_n (pc := 60) d_MO_append_60 rfl 0 rfl ?_
      refine g_lgI0 (pc := 61) (ci := 7) (f := 5) rfl d_MO_append_61 fl_MO_151 (by decide) k_m nd ?_
      refine g_iret (pc := 64) d_MO_append_64 rfl ?_
      refine ⟨rfl, ?_⟩
      rw [u1_u1, u1_u1, u1_u1, u1_u1]
    · exact (c_28 (by decide)).elim
  · exact absurd (show nI (n + 20) ≤ nI 500 from (nI_leI (by omega) (by omega)).mpr (by omega)) c_16
set_option maxRecDepth 20000 in
theorem cm_MO_appendN {E : En} {h : Hp} {m mi : Nat} {c T : Nat → Int32} {R : List (Nat × (Nat → Int32))} {n : Nat} {a1 a2 a3 a4 a5 : Int32} (hM : MiOk h m mi) (nd : (m :: mi :: R.map Prod.fst).Nodup) (hn5 : c 5 = nI n) (hn : n ≤ 500 ∧ 500 < n + 20) : CR E m_MO_append [.ref m, .int a1, .int a2, .int a3, .int a4, .int a5] (wL h ((m, c) :: (mi, T) :: R)) (some (.int 0)) (wL h ((m, (u1 c 17 1)) :: (mi, T) :: R)) := by
  refine ct_of rfl (by decide +kernel) (Nat.le_of_ble_eq_true rfl) ?_
  show G E m_MO_append 0 [(0, .ref m), (1, .int a1), (2, .int a2), (3, .int a3), (4, .int a4), (5, .int a5)] [] (wL h ((m, c) :: (mi, T) :: R)) 0 0 _ noX
  obtain ⟨k_m, r_m_4, k_mi, l_mi⟩ := id hM
  refine g_aload_n (pc := 0) d_MO_append_0 rfl 0 rfl ?_
  refine g_iconst (pc := 1) (v := 0) d_MO_append_1 (by decide) ?_
  refine g_lpI0 (pc := 2) (ci := 7) (f := 17) rfl d_MO_append_2 fl_MO_52 (fun q hq => by cases hq; exact rfl) rfl rfl (by decide) k_m nd ?_
  refine g_aload_n (pc := 5) d_MO_append_5 rfl 0 rfl ?_
  refine g_aload_n (pc := 6) d_MO_append_6 rfl 0 rfl ?_
  refine g_lgI0 (pc := 7) (ci := 7) (f := 5) rfl d_MO_append_7 fl_MO_151 (by decide) k_m nd ?_
  refine g_bipush (pc := 10) (v := 20) d_MO_append_10 (by decide) ?_
  refine g_iadd (pc := 12) d_MO_append_12 ?_
  refine g_top (y := nI (n + 20)) (by rw [show u1 c 17 0 5 = nI n from hn5]; exact nI_add n 20) ?_
  refine g_sipush (pc := 13) (v := 500) d_MO_append_13 (by decide) ?_
  refine g_icmp_le (pc := 16) (tgt := 23) d_MO_append_16 (by decide) (fun c_16 => ?_) (fun c_16 => ?_)
  · exact absurd ((nI_leI (a := n + 20) (b := 500) (by omega) (by omega)).mp c_16) (by omega)
  · skip
    refine g_iconst (pc := 19) (v := 1) d_MO_append_19 (by decide) ?_
    refine g_goto (pc := 20) (tgt := 24) d_MO_append_20 (by decide) ?_
    refine g_iconst (pc := 24) (v := 1) d_MO_append_24 (by decide) ?_
    refine g_cV1 (pc := 25) (ci := 7) (As := [.int _, .int _]) d_MO_append_25 rfl mv_MO_throwsIf st_MO_append_154 rfl rfl (by decide) rfl rfl (Nat.le_of_ble_eq_true rfl) k_m (cm_MO_throwsIf_t k_m nd) ?_
    refine g_if_eq (pc := 28) (tgt := 33) d_MO_append_28 (by decide) (fun c_28 => ?_) (fun c_28 => ?_)
    · exact absurd c_28 (by decide)
    · skip
      refine g_iconst (pc := 31) (v := 0) d_MO_append_31 (by decide) ?_
      refine g_iret (pc := 32) d_MO_append_32 rfl ?_
      rw [u1_u1]
      exact ⟨rfl, rfl⟩
set_option maxRecDepth 20000 in
theorem cm_MO_truncate {E : En} {h : Hp} {m mi : Nat} {c T : Nat → Int32} {R : List (Nat × (Nat → Int32))} {x : Int32} (hM : MiOk h m mi) (nd : (m :: mi :: R.map Prod.fst).Nodup) (hr1 : 0 ≤ x) (hr2 : x ≤ c 5) : CR E m_MO_truncate [.ref m, .int x] (wL h ((m, c) :: (mi, T) :: R)) (some (.int x)) (wL h ((m, (u1 (u1 c 17 0) 5 x)) :: (mi, T) :: R)) := by
  refine ct_of rfl (by decide +kernel) (Nat.le_of_ble_eq_true rfl) ?_
  show G E m_MO_truncate 0 [(0, .ref m), (1, .int x)] [] (wL h ((m, c) :: (mi, T) :: R)) 0 0 _ noX
  obtain ⟨k_m, r_m_4, k_mi, l_mi⟩ := id hM
  refine g_aload_n (pc := 0) d_MO_truncate_0 rfl 0 rfl ?_
  refine g_iconst (pc := 1) (v := 0) d_MO_truncate_1 (by decide) ?_
  refine g_lpI0 (pc := 2) (ci := 7) (f := 17) rfl d_MO_truncate_2 fl_MO_52 (fun q hq => by cases hq; exact rfl) rfl rfl (by decide) k_m nd ?_
  refine g_aload_n (pc := 5) d_MO_truncate_5 rfl 0 rfl ?_
  refine g_iload_n (pc := 6) d_MO_truncate_6 rfl 1 rfl ?_
  refine g_iconst (pc := 7) (v := 0) d_MO_truncate_7 (by decide) ?_
  refine g_aload_n (pc := 8) d_MO_truncate_8 rfl 0 rfl ?_
  refine g_lgI0 (pc := 9) (ci := 7) (f := 5) rfl d_MO_truncate_9 fl_MO_151 (by decide) k_m nd ?_
  refine g_cS1 (pc := 12) (As := [.int _, .int _, .int _]) d_MO_truncate_12 rfl ms_MO_in st_MO_truncate_161 rfl rfl (Nat.le_of_ble_eq_true rfl) (cm_MO_in_t hr1 hr2) ?_
  refine g_if_ne (pc := 15) (tgt := 22) d_MO_truncate_15 (by decide) (fun c_15 => ?_) (fun c_15 => ?_)
  · skip
    refine g_iconst (pc := 22) (v := 0) d_MO_truncate_22 (by decide) ?_
    refine g_iconst (pc := 23) (v := 1) d_MO_truncate_23 (by decide) ?_
    refine g_cV1 (pc := 24) (ci := 7) (As := [.int _, .int _]) d_MO_truncate_24 rfl mv_MO_throwsIf st_MO_truncate_154 rfl rfl (by decide) rfl rfl (Nat.le_of_ble_eq_true rfl) k_m (cm_MO_throwsIf_f k_m nd) ?_
    refine g_if_eq (pc := 27) (tgt := 32) d_MO_truncate_27 (by decide) (fun c_27 => ?_) (fun c_27 => ?_)
    · skip
      refine g_aload_n (pc := 32) d_MO_truncate_32 rfl 0 rfl ?_
      refine g_iload_n (pc := 33) d_MO_truncate_33 rfl 1 rfl ?_
      refine g_lpI0 (pc := 34) (ci := 7) (f := 5) rfl d_MO_truncate_34 fl_MO_151 (fun q hq => by cases hq; exact rfl) rfl rfl (by decide) k_m nd ?_
      refine g_aload_n (pc := 37) d_MO_truncate_37 rfl 0 rfl ?_
      refine g_lgI0 (pc := 38) (ci := 7) (f := 5) rfl d_MO_truncate_38 fl_MO_151 (by decide) k_m nd ?_
      refine g_iret (pc := 41) d_MO_truncate_41 rfl ?_
      first | exact ⟨rfl, rfl⟩ | (rw [u1_u1]; exact ⟨rfl, rfl⟩)
    · exact (c_27 (by decide)).elim
  · exact absurd c_15 (by decide)
set_option maxRecDepth 20000 in
theorem cm_MO_truncateR {E : En} {h : Hp} {m mi : Nat} {c T : Nat → Int32} {R : List (Nat × (Nat → Int32))} {x : Int32} (hM : MiOk h m mi) (nd : (m :: mi :: R.map Prod.fst).Nodup) (hrn : x < 0 ∨ c 5 < x) : CR E m_MO_truncate [.ref m, .int x] (wL h ((m, c) :: (mi, T) :: R)) (some (.int 0)) (wL h ((m, (u1 c 17 1)) :: (mi, T) :: R)) := by
  refine ct_of rfl (by decide +kernel) (Nat.le_of_ble_eq_true rfl) ?_
  show G E m_MO_truncate 0 [(0, .ref m), (1, .int x)] [] (wL h ((m, c) :: (mi, T) :: R)) 0 0 _ noX
  obtain ⟨k_m, r_m_4, k_mi, l_mi⟩ := id hM
  refine g_aload_n (pc := 0) d_MO_truncate_0 rfl 0 rfl ?_
  refine g_iconst (pc := 1) (v := 0) d_MO_truncate_1 (by decide) ?_
  refine g_lpI0 (pc := 2) (ci := 7) (f := 17) rfl d_MO_truncate_2 fl_MO_52 (fun q hq => by cases hq; exact rfl) rfl rfl (by decide) k_m nd ?_
  refine g_aload_n (pc := 5) d_MO_truncate_5 rfl 0 rfl ?_
  refine g_iload_n (pc := 6) d_MO_truncate_6 rfl 1 rfl ?_
  refine g_iconst (pc := 7) (v := 0) d_MO_truncate_7 (by decide) ?_
  refine g_aload_n (pc := 8) d_MO_truncate_8 rfl 0 rfl ?_
  refine g_lgI0 (pc := 9) (ci := 7) (f := 5) rfl d_MO_truncate_9 fl_MO_151 (by decide) k_m nd ?_
  refine g_cS1 (pc := 12) (As := [.int _, .int _, .int _]) d_MO_truncate_12 rfl ms_MO_in st_MO_truncate_161 rfl rfl (Nat.le_of_ble_eq_true rfl) (cm_MO_in_f hrn) ?_
  refine g_if_ne (pc := 15) (tgt := 22) d_MO_truncate_15 (by decide) (fun c_15 => ?_) (fun c_15 => ?_)
  · exact (c_15 (by decide)).elim
  · skip
    refine g_iconst (pc := 18) (v := 1) d_MO_truncate_18 (by decide) ?_
    refine g_goto (pc := 19) (tgt := 23) d_MO_truncate_19 (by decide) ?_
    refine g_iconst (pc := 23) (v := 1) d_MO_truncate_23 (by decide) ?_
    refine g_cV1 (pc := 24) (ci := 7) (As := [.int _, .int _]) d_MO_truncate_24 rfl mv_MO_throwsIf st_MO_truncate_154 rfl rfl (by decide) rfl rfl (Nat.le_of_ble_eq_true rfl) k_m (cm_MO_throwsIf_t k_m nd) ?_
    refine g_if_eq (pc := 27) (tgt := 32) d_MO_truncate_27 (by decide) (fun c_27 => ?_) (fun c_27 => ?_)
    · exact absurd c_27 (by decide)
    · skip
      refine g_iconst (pc := 30) (v := 0) d_MO_truncate_30 (by decide) ?_
      refine g_iret (pc := 31) d_MO_truncate_31 rfl ?_
      first | exact ⟨rfl, rfl⟩ | (rw [u1_u1]; exact ⟨rfl, rfl⟩)
set_option maxRecDepth 20000 in
theorem cr_MO_undo {E : En} {h : Hp} {m st : Nat} {c G0 : Nat → Int32} {R : List (Nat × (Nat → Int32))} {old kept : Nat} (hM : MoOk h m st) (nd : (m :: st :: R.map Prod.fst).Nodup) (hk1 : c 1 = nI old) (hk2 : c 2 = nI kept) (ho8 : old < 8) (hk8 : kept ≤ 8) (hk0 : 0 < kept) : CR E m_MO_undo [.ref m] (wL h ((m, c) :: (st, G0) :: R)) (some (.int (nI (kept - 1)))) (wL h ((m, (u1 (u1 c 17 0) 2 (nI (kept - 1)))) :: (st, (KC G0 (1 + (old + (kept - 1)) % 8) 0)) :: R)) := by
  refine ct_of rfl (by decide +kernel) (Nat.le_of_ble_eq_true rfl) ?_
  show G E m_MO_undo 0 [(0, .ref m)] [] (wL h ((m, c) :: (st, G0) :: R)) 0 0 _ noX
  obtain ⟨k_m, r_m_0, k_st, l_st⟩ := id hM
  refine g_aload_n (pc := 0) d_MO_undo_0 rfl 0 rfl ?_
  refine g_iconst (pc := 1) (v := 0) d_MO_undo_1 (by decide) ?_
  refine g_lpI0 (pc := 2) (ci := 7) (f := 17) rfl d_MO_undo_2 fl_MO_52 (fun q hq => by cases hq; exact rfl) rfl rfl (by decide) k_m nd ?_
  refine g_aload_n (pc := 5) d_MO_undo_5 rfl 0 rfl ?_
  refine g_aload_n (pc := 6) d_MO_undo_6 rfl 0 rfl ?_
  refine g_lgI0 (pc := 7) (ci := 7) (f := 2) rfl d_MO_undo_7 fl_MO_55 (by decide) k_m nd ?_
  refine g_if_ne (pc := 10) (tgt := 17) d_MO_undo_10 (by decide) (fun c_10 => ?_) (fun c_10 => ?_)
  · skip
    refine g_iconst (pc := 17) (v := 0) d_MO_undo_17 (by decide) ?_
    refine g_iconst (pc := 18) (v := 1) d_MO_undo_18 (by decide) ?_
    refine g_cV1 (pc := 19) (ci := 7) (As := [.int _, .int _]) d_MO_undo_19 rfl mv_MO_throwsIf st_MO_undo_154 rfl rfl (by decide) rfl rfl (Nat.le_of_ble_eq_true rfl) k_m (cm_MO_throwsIf_f k_m nd) ?_
    refine g_if_eq (pc := 22) (tgt := 27) d_MO_undo_22 (by decide) (fun c_22 => ?_) (fun c_22 => ?_)
    · skip
      refine g_aload_n (pc := 27) d_MO_undo_27 rfl 0 rfl ?_
      refine g_dup (pc := 28) d_MO_undo_28 rfl ?_
      refine g_lgI0 (pc := 29) (ci := 7) (f := 2) rfl d_MO_undo_29 fl_MO_55 (by decide) k_m nd ?_
      refine g_iconst (pc := 32) (v := 1) d_MO_undo_32 (by decide) ?_
      refine g_isub (pc := 33) d_MO_undo_33 ?_
      refine g_top (y := nI (kept - 1)) (by rw [show u1 c 17 0 2 = nI kept from hk2]; exact nI_m1 hk0) ?_
      refine g_lpI0 (pc := 34) (ci := 7) (f := 2) rfl d_MO_undo_34 fl_MO_55 (fun q hq => by cases hq; exact rfl) rfl rfl (by decide) k_m nd ?_
      refine g_aload_n (pc := 37) d_MO_undo_37 rfl 0 rfl ?_
      refine g_iconst (pc := 38) (v := 1) d_MO_undo_38 (by decide) ?_
      refine g_aload_n (pc := 39) d_MO_undo_39 rfl 0 rfl ?_
      refine g_lgI0 (pc := 40) (ci := 7) (f := 1) rfl d_MO_undo_40 fl_MO_58 (by decide) k_m nd ?_
      refine g_aload_n (pc := 43) d_MO_undo_43 rfl 0 rfl ?_
      refine g_lgI0 (pc := 44) (ci := 7) (f := 2) rfl d_MO_undo_44 fl_MO_55 (by decide) k_m nd ?_
      refine g_iadd (pc := 47) d_MO_undo_47 ?_
      refine g_bipush (pc := 48) (v := 8) d_MO_undo_48 (by decide) ?_
      refine g_irem (pc := 50) d_MO_undo_50 (by decide) ?_
      refine g_iadd (pc := 51) d_MO_undo_51 ?_
      refine g_top (y := nI (1 + (old + (kept - 1)) % 8)) (by rw [show u1 (u1 c 17 0) 2 (nI (kept - 1)) 1 = nI old from hk1]; exact kp_u (by omega)) ?_
      refine g_iconst (pc := 52) (v := 0) d_MO_undo_52 (by decide) ?_
      refine g_cV0 (pc := 53) (ci := 7) (As := [.int _, .int _]) d_MO_undo_53 rfl mv_MO_copyBlock st_MO_undo_61 rfl rfl (by decide) rfl rfl (Nat.le_of_ble_eq_true rfl) k_m (cr_MO_copyBlock (f := 1 + (old + (kept - 1)) % 8) (t := 0) hM nd (by omega) (by omega) (by omega)) ?_
      refine g_aload_n (pc := 56) d_MO_undo_56 rfl 0 rfl ?_
      refine g_lgI0 (pc := 57) (ci := 7) (f := 2) rfl d_MO_undo_57 fl_MO_55 (by decide) k_m nd ?_
      refine g_iret (pc := 60) d_MO_undo_60 rfl ?_
      exact ⟨rfl, rfl⟩
    · exact (c_22 (by decide)).elim
  · exact absurd ((nI_eq (a := kept) (b := 0) (by omega) (by omega)).mp (hk2.symm.trans c_10)) (by omega)
set_option maxRecDepth 20000 in
theorem cr_MO_undoN {E : En} {h : Hp} {m st : Nat} {c G0 : Nat → Int32} {R : List (Nat × (Nat → Int32))} (hM : MoOk h m st) (nd : (m :: st :: R.map Prod.fst).Nodup) (hk0 : c 2 = 0) : CR E m_MO_undo [.ref m] (wL h ((m, c) :: (st, G0) :: R)) (some (.int 0)) (wL h ((m, (u1 c 17 1)) :: (st, G0) :: R)) := by
  refine ct_of rfl (by decide +kernel) (Nat.le_of_ble_eq_true rfl) ?_
  show G E m_MO_undo 0 [(0, .ref m)] [] (wL h ((m, c) :: (st, G0) :: R)) 0 0 _ noX
  obtain ⟨k_m, r_m_0, k_st, l_st⟩ := id hM
  refine g_aload_n (pc := 0) d_MO_undo_0 rfl 0 rfl ?_
  refine g_iconst (pc := 1) (v := 0) d_MO_undo_1 (by decide) ?_
  refine g_lpI0 (pc := 2) (ci := 7) (f := 17) rfl d_MO_undo_2 fl_MO_52 (fun q hq => by cases hq; exact rfl) rfl rfl (by decide) k_m nd ?_
  refine g_aload_n (pc := 5) d_MO_undo_5 rfl 0 rfl ?_
  refine g_aload_n (pc := 6) d_MO_undo_6 rfl 0 rfl ?_
  refine g_lgI0 (pc := 7) (ci := 7) (f := 2) rfl d_MO_undo_7 fl_MO_55 (by decide) k_m nd ?_
  refine g_if_ne (pc := 10) (tgt := 17) d_MO_undo_10 (by decide) (fun c_10 => ?_) (fun c_10 => ?_)
  · exact absurd (show u1 c 17 0 2 = 0 from hk0) c_10
  · skip
    refine g_iconst (pc := 13) (v := 1) d_MO_undo_13 (by decide) ?_
    refine g_goto (pc := 14) (tgt := 18) d_MO_undo_14 (by decide) ?_
    refine g_iconst (pc := 18) (v := 1) d_MO_undo_18 (by decide) ?_
    refine g_cV1 (pc := 19) (ci := 7) (As := [.int _, .int _]) d_MO_undo_19 rfl mv_MO_throwsIf st_MO_undo_154 rfl rfl (by decide) rfl rfl (Nat.le_of_ble_eq_true rfl) k_m (cm_MO_throwsIf_t k_m nd) ?_
    refine g_if_eq (pc := 22) (tgt := 27) d_MO_undo_22 (by decide) (fun c_22 => ?_) (fun c_22 => ?_)
    · exact absurd c_22 (by decide)
    · skip
      refine g_iconst (pc := 25) (v := 0) d_MO_undo_25 (by decide) ?_
      refine g_iret (pc := 26) d_MO_undo_26 rfl ?_
      rw [u1_u1]
      exact ⟨rfl, rfl⟩
set_option maxRecDepth 20000 in
theorem cr_MO_saveSnapshot {E : En} {h : Hp} {m st sv : Nat} {c G0 F : Nat → Int32} {R : List (Nat × (Nat → Int32))} {s : Nat} (hM : MoOk h m st) (r_m_3 : hR h m 3 = some sv) (k_sv : hK h sv = 22) (l_sv : hL h sv = 2) (nd : (m :: st :: sv :: R.map Prod.fst).Nodup) (hs2 : s < 2) : CR E m_MO_saveSnapshot [.ref m, .int (nI s)] (wL h ((m, c) :: (st, G0) :: (sv, F) :: R)) (none) (wL h ((m, (u1 c 17 0)) :: (st, (KC G0 0 (9 + s))) :: (sv, (u1 F s 1)) :: R)) := by
  refine ct_of rfl (by decide +kernel) (Nat.le_of_ble_eq_true rfl) ?_
  show G E m_MO_saveSnapshot 0 [(0, .ref m), (1, .int (nI s))] [] (wL h ((m, c) :: (st, G0) :: (sv, F) :: R)) 0 0 _ noX
  obtain ⟨k_m, r_m_0, k_st, l_st⟩ := id hM
  refine g_aload_n (pc := 0) d_MO_saveSnapshot_0 rfl 0 rfl ?_
  refine g_iconst (pc := 1) (v := 0) d_MO_saveSnapshot_1 (by decide) ?_
  refine g_lpI0 (pc := 2) (ci := 7) (f := 17) rfl d_MO_saveSnapshot_2 fl_MO_52 (fun q hq => by cases hq; exact rfl) rfl rfl (by decide) k_m nd ?_
  refine g_aload_n (pc := 5) d_MO_saveSnapshot_5 rfl 0 rfl ?_
  refine g_iload_n (pc := 6) d_MO_saveSnapshot_6 rfl 1 rfl ?_
  refine g_iconst (pc := 7) (v := 0) d_MO_saveSnapshot_7 (by decide) ?_
  refine g_iconst (pc := 8) (v := 1) d_MO_saveSnapshot_8 (by decide) ?_
  refine g_cS1 (pc := 9) (As := [.int _, .int _, .int _]) d_MO_saveSnapshot_9 rfl ms_MO_in st_MO_saveSnapshot_161 rfl rfl (Nat.le_of_ble_eq_true rfl) (cm_MO_in_t (nI_pos' (by omega)) ((nI_leI (b := 1) (by omega) (by omega)).mpr (by omega))) ?_
  refine g_if_ne (pc := 12) (tgt := 19) d_MO_saveSnapshot_12 (by decide) (fun c_12 => ?_) (fun c_12 => ?_)
  · skip
    refine g_iconst (pc := 19) (v := 0) d_MO_saveSnapshot_19 (by decide) ?_
    refine g_iconst (pc := 20) (v := 1) d_MO_saveSnapshot_20 (by decide) ?_
    refine g_cV1 (pc := 21) (ci := 7) (As := [.int _, .int _]) d_MO_saveSnapshot_21 rfl mv_MO_throwsIf st_MO_saveSnapshot_154 rfl rfl (by decide) rfl rfl (Nat.le_of_ble_eq_true rfl) k_m (cm_MO_throwsIf_f k_m nd) ?_
    refine g_if_eq (pc := 24) (tgt := 28) d_MO_saveSnapshot_24 (by decide) (fun c_24 => ?_) (fun c_24 => ?_)
    · skip
      refine g_aload_n (pc := 28) d_MO_saveSnapshot_28 rfl 0 rfl ?_
      refine g_iconst (pc := 29) (v := 0) d_MO_saveSnapshot_29 (by decide) ?_
      refine g_bipush (pc := 30) (v := 9) d_MO_saveSnapshot_30 (by decide) ?_
      refine g_iload_n (pc := 32) d_MO_saveSnapshot_32 rfl 1 rfl ?_
      refine g_iadd (pc := 33) d_MO_saveSnapshot_33 ?_
      refine g_top (y := nI (9 + s)) (by exact nI_add 9 s) ?_
      refine g_cV0 (pc := 34) (ci := 7) (As := [.int _, .int _]) d_MO_saveSnapshot_34 rfl mv_MO_copyBlock st_MO_saveSnapshot_61 rfl rfl (by decide) rfl rfl (Nat.le_of_ble_eq_true rfl) k_m (cr_MO_copyBlock (f := 0) (t := 9 + s) hM nd (by omega) (by omega) (by omega)) ?_
      refine g_aload_n (pc := 37) d_MO_saveSnapshot_37 rfl 0 rfl ?_
      refine g_getR (pc := 38) (ci := 7) (f := 3) (b := sv) rfl r_m_3 d_MO_saveSnapshot_38 fl_MO_13 (by decide) k_m ?_
      refine g_iload_n (pc := 41) d_MO_saveSnapshot_41 rfl 1 rfl ?_
      refine g_iconst (pc := 42) (v := 1) d_MO_saveSnapshot_42 (by decide) ?_
      refine g_lzE2 (pc := 43) (j := s) (hg := congrArg (u1 F s) (by rfl)) d_MO_saveSnapshot_43 k_sv l_sv (by first | assumption | omega | decide) (by decide) nd ?_
      refine g_vret (pc := 44) d_MO_saveSnapshot_44 rfl ?_
      first | exact ⟨rfl, rfl⟩ | (rw [u1_u1]; exact ⟨rfl, rfl⟩)
    · exact (c_24 (by decide)).elim
  · exact absurd c_12 (by decide)
set_option maxRecDepth 20000 in
theorem cr_MO_saveSnapshotR {E : En} {h : Hp} {m st sv : Nat} {c G0 F : Nat → Int32} {R : List (Nat × (Nat → Int32))} {x : Int32} (hM : MoOk h m st) (r_m_3 : hR h m 3 = some sv) (k_sv : hK h sv = 22) (l_sv : hL h sv = 2) (nd : (m :: st :: sv :: R.map Prod.fst).Nodup) (hrn : x < 0 ∨ 1 < x) : CR E m_MO_saveSnapshot [.ref m, .int x] (wL h ((m, c) :: (st, G0) :: (sv, F) :: R)) (none) (wL h ((m, (u1 c 17 1)) :: (st, G0) :: (sv, F) :: R)) := by
  refine ct_of rfl (by decide +kernel) (Nat.le_of_ble_eq_true rfl) ?_
  show G E m_MO_saveSnapshot 0 [(0, .ref m), (1, .int x)] [] (wL h ((m, c) :: (st, G0) :: (sv, F) :: R)) 0 0 _ noX
  obtain ⟨k_m, r_m_0, k_st, l_st⟩ := id hM
  refine g_aload_n (pc := 0) d_MO_saveSnapshot_0 rfl 0 rfl ?_
  refine g_iconst (pc := 1) (v := 0) d_MO_saveSnapshot_1 (by decide) ?_
  refine g_lpI0 (pc := 2) (ci := 7) (f := 17) rfl d_MO_saveSnapshot_2 fl_MO_52 (fun q hq => by cases hq; exact rfl) rfl rfl (by decide) k_m nd ?_
  refine g_aload_n (pc := 5) d_MO_saveSnapshot_5 rfl 0 rfl ?_
  refine g_iload_n (pc := 6) d_MO_saveSnapshot_6 rfl 1 rfl ?_
  refine g_iconst (pc := 7) (v := 0) d_MO_saveSnapshot_7 (by decide) ?_
  refine g_iconst (pc := 8) (v := 1) d_MO_saveSnapshot_8 (by decide) ?_
  refine g_cS1 (pc := 9) (As := [.int _, .int _, .int _]) d_MO_saveSnapshot_9 rfl ms_MO_in st_MO_saveSnapshot_161 rfl rfl (Nat.le_of_ble_eq_true rfl) (cm_MO_in_f hrn) ?_
  refine g_if_ne (pc := 12) (tgt := 19) d_MO_saveSnapshot_12 (by decide) (fun c_12 => ?_) (fun c_12 => ?_)
  · exact (c_12 (by decide)).elim
  · skip
    refine g_iconst (pc := 15) (v := 1) d_MO_saveSnapshot_15 (by decide) ?_
    refine g_goto (pc := 16) (tgt := 20) d_MO_saveSnapshot_16 (by decide) ?_
    refine g_iconst (pc := 20) (v := 1) d_MO_saveSnapshot_20 (by decide) ?_
    refine g_cV1 (pc := 21) (ci := 7) (As := [.int _, .int _]) d_MO_saveSnapshot_21 rfl mv_MO_throwsIf st_MO_saveSnapshot_154 rfl rfl (by decide) rfl rfl (Nat.le_of_ble_eq_true rfl) k_m (cm_MO_throwsIf_t k_m nd) ?_
    refine g_if_eq (pc := 24) (tgt := 28) d_MO_saveSnapshot_24 (by decide) (fun c_24 => ?_) (fun c_24 => ?_)
    · exact absurd c_24 (by decide)
    · skip
      refine g_vret (pc := 27) d_MO_saveSnapshot_27 rfl ?_
      first | exact ⟨rfl, rfl⟩ | (rw [u1_u1]; exact ⟨rfl, rfl⟩)
set_option maxRecDepth 20000 in
theorem cr_MO_restoreSnapshot {E : En} {h : Hp} {m st sv : Nat} {c G0 F : Nat → Int32} {R : List (Nat × (Nat → Int32))} {s : Nat} {old kept : Nat} (hM : MoOk h m st) (r_m_3 : hR h m 3 = some sv) (k_sv : hK h sv = 22) (l_sv : hL h sv = 2) (nd : (m :: st :: sv :: R.map Prod.fst).Nodup) (hk1 : c 1 = nI old) (hk2 : c 2 = nI kept) (ho8 : old < 8) (hk8 : kept ≤ 8) (hs2 : s < 2) (hsv : F s = 1) : CR E m_MO_restoreSnapshot [.ref m, .int (nI s)] (wL h ((m, c) :: (st, G0) :: (sv, F) :: R)) (some (.int ((KC (KC G0 0 (1 + (old + kept) % 8)) (9 + s) 0) 9))) (wL h ((m, (kpC (u1 c 17 0) old kept)) :: (st, (KC (KC G0 0 (1 + (old + kept) % 8)) (9 + s) 0)) :: (sv, F) :: R)) := by
  refine ct_of rfl (by decide +kernel) (Nat.le_of_ble_eq_true rfl) ?_
  show G E m_MO_restoreSnapshot 0 [(0, .ref m), (1, .int (nI s))] [] (wL h ((m, c) :: (st, G0) :: (sv, F) :: R)) 0 0 _ noX
  obtain ⟨k_m, r_m_0, k_st, l_st⟩ := id hM
  refine g_aload_n (pc := 0) d_MO_restoreSnapshot_0 rfl 0 rfl ?_
  refine g_iconst (pc := 1) (v := 0) d_MO_restoreSnapshot_1 (by decide) ?_
  refine g_lpI0 (pc := 2) (ci := 7) (f := 17) rfl d_MO_restoreSnapshot_2 fl_MO_52 (fun q hq => by cases hq; exact rfl) rfl rfl (by decide) k_m nd ?_
  refine g_aload_n (pc := 5) d_MO_restoreSnapshot_5 rfl 0 rfl ?_
  refine g_iload_n (pc := 6) d_MO_restoreSnapshot_6 rfl 1 rfl ?_
  refine g_iconst (pc := 7) (v := 0) d_MO_restoreSnapshot_7 (by decide) ?_
  refine g_iconst (pc := 8) (v := 1) d_MO_restoreSnapshot_8 (by decide) ?_
  refine g_cS1 (pc := 9) (As := [.int _, .int _, .int _]) d_MO_restoreSnapshot_9 rfl ms_MO_in st_MO_restoreSnapshot_161 rfl rfl (Nat.le_of_ble_eq_true rfl) (cm_MO_in_t (nI_pos' (by omega)) ((nI_leI (b := 1) (by omega) (by omega)).mpr (by omega))) ?_
  refine g_if_ne (pc := 12) (tgt := 19) d_MO_restoreSnapshot_12 (by decide) (fun c_12 => ?_) (fun c_12 => ?_)
  · skip
    refine g_iconst (pc := 19) (v := 0) d_MO_restoreSnapshot_19 (by decide) ?_
    refine g_iconst (pc := 20) (v := 1) d_MO_restoreSnapshot_20 (by decide) ?_
    refine g_cV1 (pc := 21) (ci := 7) (As := [.int _, .int _]) d_MO_restoreSnapshot_21 rfl mv_MO_throwsIf st_MO_restoreSnapshot_154 rfl rfl (by decide) rfl rfl (Nat.le_of_ble_eq_true rfl) k_m (cm_MO_throwsIf_f k_m nd) ?_
    refine g_if_eq (pc := 24) (tgt := 29) d_MO_restoreSnapshot_24 (by decide) (fun c_24 => ?_) (fun c_24 => ?_)
    · skip
      refine g_aload_n (pc := 29) d_MO_restoreSnapshot_29 rfl 0 rfl ?_
      refine g_aload_n (pc := 30) d_MO_restoreSnapshot_30 rfl 0 rfl ?_
      refine g_getR (pc := 31) (ci := 7) (f := 3) (b := sv) rfl r_m_3 d_MO_restoreSnapshot_31 fl_MO_13 (by decide) k_m ?_
      refine g_iload_n (pc := 34) d_MO_restoreSnapshot_34 rfl 1 rfl ?_
      refine g_lza2 (pc := 35) (j := s) d_MO_restoreSnapshot_35 k_sv l_sv (by first | assumption | omega | decide) (by decide) nd ?_
      refine g_if_ne (pc := 36) (tgt := 43) d_MO_restoreSnapshot_36 (by decide) (fun c_36 => ?_) (fun c_36 => ?_)
      · skip
        refine g_iconst (pc := 43) (v := 0) d_MO_restoreSnapshot_43 (by decide) ?_
        refine g_iconst (pc := 44) (v := 2) d_MO_restoreSnapshot_44 (by decide) ?_
        refine g_cV1 (pc := 45) (ci := 7) (As := [.int _, .int _]) d_MO_restoreSnapshot_45 rfl mv_MO_throwsIf st_MO_restoreSnapshot_154 rfl rfl (by decide) rfl rfl (Nat.le_of_ble_eq_true rfl) k_m (cm_MO_throwsIf_f k_m nd) ?_
        refine g_if_eq (pc := 48) (tgt := 53) d_MO_restoreSnapshot_48 (by decide) (fun c_48 => ?_) (fun c_48 => ?_)
        · skip
          refine g_aload_n (pc := 53) d_MO_restoreSnapshot_53 rfl 0 rfl ?_
          refine g_iconst (pc := 54) (v := 0) d_MO_restoreSnapshot_54 (by decide) ?_
          refine g_cV0 (pc := 55) (ci := 7) (As := [.int _]) d_MO_restoreSnapshot_55 rfl mv_MO_keep st_MO_restoreSnapshot_239 rfl rfl (by decide) rfl rfl (Nat.le_of_ble_eq_true rfl) k_m (cr_MO_keep (b := 0) hM nd hk1 hk2 ho8 hk8 (Or.inl rfl)) ?_
          refine g_aload_n (pc := 58) d_MO_restoreSnapshot_58 rfl 0 rfl ?_
          refine g_bipush (pc := 59) (v := 9) d_MO_restoreSnapshot_59 (by decide) ?_
          refine g_iload_n (pc := 61) d_MO_restoreSnapshot_61 rfl 1 rfl ?_
          refine g_iadd (pc := 62) d_MO_restoreSnapshot_62 ?_
          refine g_top (y := nI (9 + s)) (by exact nI_add 9 s) ?_
          refine g_iconst (pc := 63) (v := 0) d_MO_restoreSnapshot_63 (by decide) ?_
          refine g_cV0 (pc := 64) (ci := 7) (As := [.int _, .int _]) d_MO_restoreSnapshot_64 rfl mv_MO_copyBlock st_MO_restoreSnapshot_61 rfl rfl (by decide) rfl rfl (Nat.le_of_ble_eq_true rfl) k_m (cr_MO_copyBlock (f := 9 + s) (t := 0) hM nd (by omega) (by omega) (by omega)) ?_
          refine g_aload_n (pc := 67) d_MO_restoreSnapshot_67 rfl 0 rfl ?_
          refine g_getR (pc := 68) (ci := 7) (f := 0) (b := st) rfl r_m_0 d_MO_restoreSnapshot_68 fl_MO_7 (by decide) k_m ?_
          refine g_bipush (pc := 71) (v := 9) d_MO_restoreSnapshot_71 (by decide) ?_
          refine g_lia1 (pc := 73) (j := 9) d_MO_restoreSnapshot_73 k_st l_st (by first | assumption | omega | decide) (by decide) nd ?_
          refine g_iret (pc := 74) d_MO_restoreSnapshot_74 rfl ?_
          first | exact ⟨rfl, rfl⟩ | (rw [u1_u1]; exact ⟨rfl, rfl⟩)
        · exact (c_48 (by decide)).elim
      · exact absurd (hsv.symm.trans c_36) (by decide)
    · exact (c_24 (by decide)).elim
  · exact absurd c_12 (by decide)
set_option maxRecDepth 20000 in
theorem cr_MO_restoreSnapshotE {E : En} {h : Hp} {m st sv : Nat} {c G0 F : Nat → Int32} {R : List (Nat × (Nat → Int32))} {s : Nat} (hM : MoOk h m st) (r_m_3 : hR h m 3 = some sv) (k_sv : hK h sv = 22) (l_sv : hL h sv = 2) (nd : (m :: st :: sv :: R.map Prod.fst).Nodup) (hs2 : s < 2) (hsv : F s = 0) : CR E m_MO_restoreSnapshot [.ref m, .int (nI s)] (wL h ((m, c) :: (st, G0) :: (sv, F) :: R)) (some (.int 0)) (wL h ((m, (u1 c 17 2)) :: (st, G0) :: (sv, F) :: R)) := by
  refine ct_of rfl (by decide +kernel) (Nat.le_of_ble_eq_true rfl) ?_
  show G E m_MO_restoreSnapshot 0 [(0, .ref m), (1, .int (nI s))] [] (wL h ((m, c) :: (st, G0) :: (sv, F) :: R)) 0 0 _ noX
  obtain ⟨k_m, r_m_0, k_st, l_st⟩ := id hM
  refine g_aload_n (pc := 0) d_MO_restoreSnapshot_0 rfl 0 rfl ?_
  refine g_iconst (pc := 1) (v := 0) d_MO_restoreSnapshot_1 (by decide) ?_
  refine g_lpI0 (pc := 2) (ci := 7) (f := 17) rfl d_MO_restoreSnapshot_2 fl_MO_52 (fun q hq => by cases hq; exact rfl) rfl rfl (by decide) k_m nd ?_
  refine g_aload_n (pc := 5) d_MO_restoreSnapshot_5 rfl 0 rfl ?_
  refine g_iload_n (pc := 6) d_MO_restoreSnapshot_6 rfl 1 rfl ?_
  refine g_iconst (pc := 7) (v := 0) d_MO_restoreSnapshot_7 (by decide) ?_
  refine g_iconst (pc := 8) (v := 1) d_MO_restoreSnapshot_8 (by decide) ?_
  refine g_cS1 (pc := 9) (As := [.int _, .int _, .int _]) d_MO_restoreSnapshot_9 rfl ms_MO_in st_MO_restoreSnapshot_161 rfl rfl (Nat.le_of_ble_eq_true rfl) (cm_MO_in_t (nI_pos' (by omega)) ((nI_leI (b := 1) (by omega) (by omega)).mpr (by omega))) ?_
  refine g_if_ne (pc := 12) (tgt := 19) d_MO_restoreSnapshot_12 (by decide) (fun c_12 => ?_) (fun c_12 => ?_)
  · skip
    refine g_iconst (pc := 19) (v := 0) d_MO_restoreSnapshot_19 (by decide) ?_
    refine g_iconst (pc := 20) (v := 1) d_MO_restoreSnapshot_20 (by decide) ?_
    refine g_cV1 (pc := 21) (ci := 7) (As := [.int _, .int _]) d_MO_restoreSnapshot_21 rfl mv_MO_throwsIf st_MO_restoreSnapshot_154 rfl rfl (by decide) rfl rfl (Nat.le_of_ble_eq_true rfl) k_m (cm_MO_throwsIf_f k_m nd) ?_
    refine g_if_eq (pc := 24) (tgt := 29) d_MO_restoreSnapshot_24 (by decide) (fun c_24 => ?_) (fun c_24 => ?_)
    · skip
      refine g_aload_n (pc := 29) d_MO_restoreSnapshot_29 rfl 0 rfl ?_
      refine g_aload_n (pc := 30) d_MO_restoreSnapshot_30 rfl 0 rfl ?_
      refine g_getR (pc := 31) (ci := 7) (f := 3) (b := sv) rfl r_m_3 d_MO_restoreSnapshot_31 fl_MO_13 (by decide) k_m ?_
      refine g_iload_n (pc := 34) d_MO_restoreSnapshot_34 rfl 1 rfl ?_
      refine g_lza2 (pc := 35) (j := s) d_MO_restoreSnapshot_35 k_sv l_sv (by first | assumption | omega | decide) (by decide) nd ?_
      refine g_if_ne (pc := 36) (tgt := 43) d_MO_restoreSnapshot_36 (by decide) (fun c_36 => ?_) (fun c_36 => ?_)
      · exact absurd hsv c_36
      · skip
        refine g_iconst (pc := 39) (v := 1) d_MO_restoreSnapshot_39 (by decide) ?_
        refine g_goto (pc := 40) (tgt := 44) d_MO_restoreSnapshot_40 (by decide) ?_
        refine g_iconst (pc := 44) (v := 2) d_MO_restoreSnapshot_44 (by decide) ?_
        refine g_cV1 (pc := 45) (ci := 7) (As := [.int _, .int _]) d_MO_restoreSnapshot_45 rfl mv_MO_throwsIf st_MO_restoreSnapshot_154 rfl rfl (by decide) rfl rfl (Nat.le_of_ble_eq_true rfl) k_m (cm_MO_throwsIf_t k_m nd) ?_
        refine g_if_eq (pc := 48) (tgt := 53) d_MO_restoreSnapshot_48 (by decide) (fun c_48 => ?_) (fun c_48 => ?_)
        · exact absurd c_48 (by decide)
        · skip
          refine g_iconst (pc := 51) (v := 0) d_MO_restoreSnapshot_51 (by decide) ?_
          refine g_iret (pc := 52) d_MO_restoreSnapshot_52 rfl ?_
          first | exact ⟨rfl, rfl⟩ | (rw [u1_u1]; exact ⟨rfl, rfl⟩)
    · exact (c_24 (by decide)).elim
  · exact absurd c_12 (by decide)
set_option maxRecDepth 20000 in
theorem cr_MO_restoreSnapshotR {E : En} {h : Hp} {m st sv : Nat} {c G0 F : Nat → Int32} {R : List (Nat × (Nat → Int32))} {x : Int32} (hM : MoOk h m st) (r_m_3 : hR h m 3 = some sv) (k_sv : hK h sv = 22) (l_sv : hL h sv = 2) (nd : (m :: st :: sv :: R.map Prod.fst).Nodup) (hrn : x < 0 ∨ 1 < x) : CR E m_MO_restoreSnapshot [.ref m, .int x] (wL h ((m, c) :: (st, G0) :: (sv, F) :: R)) (some (.int 0)) (wL h ((m, (u1 c 17 1)) :: (st, G0) :: (sv, F) :: R)) := by
  refine ct_of rfl (by decide +kernel) (Nat.le_of_ble_eq_true rfl) ?_
  show G E m_MO_restoreSnapshot 0 [(0, .ref m), (1, .int x)] [] (wL h ((m, c) :: (st, G0) :: (sv, F) :: R)) 0 0 _ noX
  obtain ⟨k_m, r_m_0, k_st, l_st⟩ := id hM
  refine g_aload_n (pc := 0) d_MO_restoreSnapshot_0 rfl 0 rfl ?_
  refine g_iconst (pc := 1) (v := 0) d_MO_restoreSnapshot_1 (by decide) ?_
  refine g_lpI0 (pc := 2) (ci := 7) (f := 17) rfl d_MO_restoreSnapshot_2 fl_MO_52 (fun q hq => by cases hq; exact rfl) rfl rfl (by decide) k_m nd ?_
  refine g_aload_n (pc := 5) d_MO_restoreSnapshot_5 rfl 0 rfl ?_
  refine g_iload_n (pc := 6) d_MO_restoreSnapshot_6 rfl 1 rfl ?_
  refine g_iconst (pc := 7) (v := 0) d_MO_restoreSnapshot_7 (by decide) ?_
  refine g_iconst (pc := 8) (v := 1) d_MO_restoreSnapshot_8 (by decide) ?_
  refine g_cS1 (pc := 9) (As := [.int _, .int _, .int _]) d_MO_restoreSnapshot_9 rfl ms_MO_in st_MO_restoreSnapshot_161 rfl rfl (Nat.le_of_ble_eq_true rfl) (cm_MO_in_f hrn) ?_
  refine g_if_ne (pc := 12) (tgt := 19) d_MO_restoreSnapshot_12 (by decide) (fun c_12 => ?_) (fun c_12 => ?_)
  · exact (c_12 (by decide)).elim
  · skip
    refine g_iconst (pc := 15) (v := 1) d_MO_restoreSnapshot_15 (by decide) ?_
    refine g_goto (pc := 16) (tgt := 20) d_MO_restoreSnapshot_16 (by decide) ?_
    refine g_iconst (pc := 20) (v := 1) d_MO_restoreSnapshot_20 (by decide) ?_
    refine g_cV1 (pc := 21) (ci := 7) (As := [.int _, .int _]) d_MO_restoreSnapshot_21 rfl mv_MO_throwsIf st_MO_restoreSnapshot_154 rfl rfl (by decide) rfl rfl (Nat.le_of_ble_eq_true rfl) k_m (cm_MO_throwsIf_t k_m nd) ?_
    refine g_if_eq (pc := 24) (tgt := 29) d_MO_restoreSnapshot_24 (by decide) (fun c_24 => ?_) (fun c_24 => ?_)
    · exact absurd c_24 (by decide)
    · skip
      refine g_iconst (pc := 27) (v := 0) d_MO_restoreSnapshot_27 (by decide) ?_
      refine g_iret (pc := 28) d_MO_restoreSnapshot_28 rfl ?_
      first | exact ⟨rfl, rfl⟩ | (rw [u1_u1]; exact ⟨rfl, rfl⟩)
theorem lp_MO_worstWeight {E : En} {h : Hp} {m st nw sc : Nat} {c g : Nat → Int32} {B : Bu} {R : List (Nat × (Nat → Int32))} {ni U : Nat} {i : Nat} (hM : MoOk h m st) (nd : (m :: st :: R.map Prod.fst).Nodup) (hG : Gd B nw sc ni U) (hi : i < sc) : ∀ (d k t : Nat), (k = 0 ∨ k + 1 ≤ nw) → t = P_worst B.1 B.2.1 (B.2.2 i) k → nw - k < d → G E m_MO_worstWeight 14 [(3, .int (nI (k + 1))), (2, .int (nI t)), (0, .ref m), (1, .int (nI i))] [] (wL h ((m, c) :: (st, enc nw sc B g) :: R)) 0 0 (fun v1 h1 => v1 = some (.int (nI (P_worst B.1 B.2.1 (B.2.2 i) (nw - 1)))) ∧ h1 = wL h ((m, c) :: (st, enc nw sc B g) :: R)) noX := by
  obtain ⟨k_m, r_m_0, k_st, l_st⟩ := id hM
  intro d
  induction d with
  | zero => intros; omega
  | succ d ih =>
    intro k t hk ht hd
    obtain ⟨hw, n6, hs, s8, h0, hni, n3, ⟨sd, hsd, hsx⟩, hop⟩ := id hG.1
    refine g_iload_n (pc := 14) d_MO_worstWeight_14 rfl 0 rfl ?_
    refine g_aload_n (pc := 15) d_MO_worstWeight_15 rfl 2 rfl ?_
    refine g_getR (pc := 16) (ci := 7) (f := 0) (b := st) rfl r_m_0 d_MO_worstWeight_16 fl_MO_7 (by decide) k_m ?_
    refine g_bipush (pc := 19) (v := 7) d_MO_worstWeight_19 (by decide) ?_
    refine g_mI (pc := 21) (k := 7) d_MO_worstWeight_21 k_st l_st (by decide) nd ?_
    refine g_icmp_ge (pc := 22) (tgt := 64) d_MO_worstWeight_22 (by decide) (fun c_22 => ?_) (fun c_22 => ?_)
    · skip
      have e9 : nw ≤ k + 1 := by rw [hw] at c_22; exact (nI_leI (by omega) (by omega)).mp c_22
      refine g_iload_n (pc := 64) d_MO_worstWeight_64 rfl 1 rfl ?_
      refine g_iret (pc := 65) d_MO_worstWeight_65 rfl ?_
      refine ⟨?_, rfl⟩
      rw [ht]
      exact congrArg (fun q => some (Value.int (nI (P_worst B.1 B.2.1 (B.2.2 i) q)))) (by omega)
    · skip
      have e9 : k + 1 < nw := by rw [hw] at c_22; exact Nat.lt_of_not_le (fun z => c_22 ((nI_leI (by omega) (by omega)).mpr z))
      have e7 : t ≤ k := by rw [ht]; exact P_worst_le B.1 B.2.1 (B.2.2 i) k
      refine g_aload_n (pc := 25) d_MO_worstWeight_25 rfl 2 rfl ?_
      refine g_iload_n (pc := 26) d_MO_worstWeight_26 rfl 3 rfl ?_
      refine g_aload_n (pc := 27) d_MO_worstWeight_27 rfl 2 rfl ?_
      refine g_getR (pc := 28) (ci := 7) (f := 0) (b := st) rfl r_m_0 d_MO_worstWeight_28 fl_MO_7 (by decide) k_m ?_
      refine g_bipush (pc := 31) (v := 14) d_MO_worstWeight_31 (by decide) ?_
      refine g_iload_n (pc := 33) d_MO_worstWeight_33 rfl 0 rfl ?_
      refine g_iadd (pc := 34) d_MO_worstWeight_34 ?_
      refine g_mW (pc := 35) (j := (k + 1)) d_MO_worstWeight_35 k_st l_st n6 (by first | assumption | omega | decide) nd ?_
      refine g_cV1 (pc := 36) (ci := 7) (As := [.int _, .int _]) d_MO_worstWeight_36 rfl mv_MO_excessFor st_MO_worstWeight_80 rfl rfl (by decide) rfl rfl (Nat.le_of_ble_eq_true rfl) k_m (cm_MO_excessFor hM nd n6 s8 (by first | assumption | omega | decide)) ?_
      refine g_aload_n (pc := 39) d_MO_worstWeight_39 rfl 2 rfl ?_
      refine g_iload_n (pc := 40) d_MO_worstWeight_40 rfl 3 rfl ?_
      refine g_aload_n (pc := 41) d_MO_worstWeight_41 rfl 2 rfl ?_
      refine g_getR (pc := 42) (ci := 7) (f := 0) (b := st) rfl r_m_0 d_MO_worstWeight_42 fl_MO_7 (by decide) k_m ?_
      refine g_bipush (pc := 45) (v := 14) d_MO_worstWeight_45 (by decide) ?_
      refine g_iload_n (pc := 47) d_MO_worstWeight_47 rfl 1 rfl ?_
      refine g_iadd (pc := 48) d_MO_worstWeight_48 ?_
      refine g_mW (pc := 49) (j := t) d_MO_worstWeight_49 k_st l_st n6 (by first | assumption | omega | decide) nd ?_
      refine g_cV1 (pc := 50) (ci := 7) (As := [.int _, .int _]) d_MO_worstWeight_50 rfl mv_MO_excessFor st_MO_worstWeight_80 rfl rfl (by decide) rfl rfl (Nat.le_of_ble_eq_true rfl) k_m (cm_MO_excessFor hM nd n6 s8 (by first | assumption | omega | decide)) ?_
      refine g_icmp_le (pc := 53) (tgt := 58) d_MO_worstWeight_53 (by decide) (fun c_53 => ?_) (fun c_53 => ?_)
      · skip
        obtain ⟨x_1, hx_1⟩ : ∃ y : Int32, y = (nI (k + 1)) + 1 := ⟨_, rfl⟩
        refine g_iinc (pc := 58) (w := 0) (v := x_1) (lv' := [(3, .int x_1), (2, .int (nI t)), (0, .ref m), (1, .int (nI i))]) d_MO_worstWeight_58 rfl (by rw [hx_1]; rfl) (by decide) rfl ?_
        refine g_goto (pc := 61) (tgt := 14) d_MO_worstWeight_61 (by decide) ?_
        have e8 : x_1 = nI (k + 1 + 1) := by rw [hx_1]; exact nI_1 _
        clear hx_1
        subst e8
        refine g_perm [0, 1, 2, 3] rfl ?_
        refine ih (k + 1) _ (by omega) ?_ (by omega)
        rw [P_worst, ← ht]
        first | (rw [if_pos c_53]; done) | (rw [if_neg c_53]; done)
      · skip
        refine g_iload_n (pc := 56) d_MO_worstWeight_56 rfl 0 rfl ?_
        refine g_istore_n (pc := 57) (lv' := [(2, .int (nI (k + 1))), (3, .int (nI (k + 1))), (0, .ref m), (1, .int (nI i))]) d_MO_worstWeight_57 rfl (by decide) rfl ?_
        obtain ⟨x_2, hx_2⟩ : ∃ y : Int32, y = (nI (k + 1)) + 1 := ⟨_, rfl⟩
        refine g_iinc (pc := 58) (w := 1) (v := x_2) (lv' := [(3, .int x_2), (2, .int (nI (k + 1))), (0, .ref m), (1, .int (nI i))]) d_MO_worstWeight_58 rfl (by rw [hx_2]; rfl) (by decide) rfl ?_
        refine g_goto (pc := 61) (tgt := 14) d_MO_worstWeight_61 (by decide) ?_
        have e8 : x_2 = nI (k + 1 + 1) := by rw [hx_2]; exact nI_1 _
        clear hx_2
        subst e8
        refine g_perm [0, 1, 2, 3] rfl ?_
        refine ih (k + 1) _ (by omega) ?_ (by omega)
        rw [P_worst, ← ht]
        first | (rw [if_pos c_53]; done) | (rw [if_neg c_53]; done)
set_option maxRecDepth 20000 in
theorem cm_MO_worstWeight {E : En} {h : Hp} {m st nw sc : Nat} {c g : Nat → Int32} {B : Bu} {R : List (Nat × (Nat → Int32))} {ni U : Nat} {i : Nat} (hM : MoOk h m st) (nd : (m :: st :: R.map Prod.fst).Nodup) (hG : Gd B nw sc ni U) (hi : i < sc) : CR E m_MO_worstWeight [.ref m, .int (nI i)] (wL h ((m, c) :: (st, enc nw sc B g) :: R)) (some (.int (nI (P_worst B.1 B.2.1 (B.2.2 i) (nw - 1))))) (wL h ((m, (u1 c 17 0)) :: (st, enc nw sc B g) :: R)) := by
  refine ct_of rfl (by decide +kernel) (Nat.le_of_ble_eq_true rfl) ?_
  show G E m_MO_worstWeight 0 [(0, .ref m), (1, .int (nI i))] [] (wL h ((m, c) :: (st, enc nw sc B g) :: R)) 0 0 _ noX
  obtain ⟨k_m, r_m_0, k_st, l_st⟩ := id hM
  obtain ⟨hw, n6, hs, s8, h0, hni, n3, ⟨sd, hsd, hsx⟩, hop⟩ := id hG.1
  refine g_aload_n (pc := 0) d_MO_worstWeight_0 rfl 0 rfl ?_
  refine g_iload_n (pc := 1) d_MO_worstWeight_1 rfl 1 rfl ?_
  refine g_cV1 (pc := 2) (ci := 7) (As := [.int _]) d_MO_worstWeight_2 rfl mv_MO_lacksShop st_MO_worstWeight_284 rfl rfl (by decide) rfl rfl (Nat.le_of_ble_eq_true rfl) k_m (cm_MO_lacksShop hM nd hG hi) ?_
  refine g_if_eq (pc := 5) (tgt := 10) d_MO_worstWeight_5 (by decide) (fun c_5 => ?_) (fun c_5 => ?_)
  · skip
    refine g_iconst (pc := 10) (v := 0) d_MO_worstWeight_10 (by decide) ?_
    refine g_nameI (fun x_1 hx_1 => ?_)
    refine g_istore_n (pc := 11) (lv' := [(2, .int x_1), (0, .ref m), (1, .int (nI i))]) d_MO_worstWeight_11 rfl (by decide) rfl ?_
    refine g_iconst (pc := 12) (v := 1) d_MO_worstWeight_12 (by decide) ?_
    refine g_nameI (fun x_2 hx_2 => ?_)
    refine g_istore_n (pc := 13) (lv' := [(3, .int x_2), (2, .int x_1), (0, .ref m), (1, .int (nI i))]) d_MO_worstWeight_13 rfl (by decide) rfl ?_
    subst hx_1
    subst hx_2
    exact lp_MO_worstWeight hM nd hG hi (nw + 1) 0 0 (Or.inl rfl) rfl (by omega)
  · exact (c_5 (by decide)).elim
theorem lp_MO_shopAtRank {E : En} {h : Hp} {m st nw sc : Nat} {c g : Nat → Int32} {B : Bu} {R : List (Nat × (Nat → Int32))} {ni U : Nat} {x : Int32} (hM : MoOk h m st) (nd : (m :: st :: R.map Prod.fst).Nodup) (hG : Gd B nw sc ni U) (hU : U < 2000000000) : ∀ (d k : Nat), k ≤ sc → sc - k < d → G E m_MO_shopAtRank 7 [(2, .int (nI k)), (0, .ref m), (1, .int x)] [] (wL h ((m, c) :: (st, enc nw sc B g) :: R)) 0 0 (fun v1 h1 => v1 = some (.int (Q_rank B.2.2 sc x (sc - k))) ∧ h1 = wL h ((m, c) :: (st, enc nw sc B g) :: R)) noX := by
  obtain ⟨k_m, r_m_0, k_st, l_st⟩ := id hM
  intro d
  induction d with
  | zero => intros; omega
  | succ d ih =>
    intro k hk hd
    obtain ⟨hw, n6, hs, s8, h0, hni, n3, ⟨sd, hsd, hsx⟩, hop⟩ := id hG.1
    refine g_iload_n (pc := 7) d_MO_shopAtRank_7 rfl 0 rfl ?_
    refine g_aload_n (pc := 8) d_MO_shopAtRank_8 rfl 1 rfl ?_
    refine g_getR (pc := 9) (ci := 7) (f := 0) (b := st) rfl r_m_0 d_MO_shopAtRank_9 fl_MO_7 (by decide) k_m ?_
    refine g_bipush (pc := 12) (v := 8) d_MO_shopAtRank_12 (by decide) ?_
    refine g_mI (pc := 14) (k := 8) d_MO_shopAtRank_14 k_st l_st (by decide) nd ?_
    refine g_icmp_ge (pc := 15) (tgt := 35) d_MO_shopAtRank_15 (by decide) (fun c_15 => ?_) (fun c_15 => ?_)
    · skip
      have e9 : k = sc := by rw [hs] at c_15; have := (nI_leI (by omega) (by omega)).mp c_15; omega
      refine g_iconst (pc := 35) (v := (-1)) d_MO_shopAtRank_35 (by decide) ?_
      refine g_iret (pc := 36) d_MO_shopAtRank_36 rfl ?_
      rw [show sc - k = 0 by omega]
      exact ⟨rfl, rfl⟩
    · skip
      have e9 : k < sc := by rw [hs] at c_15; exact Nat.lt_of_not_le (fun z => c_15 ((nI_leI (by omega) (by omega)).mpr z))
      refine g_aload_n (pc := 18) d_MO_shopAtRank_18 rfl 1 rfl ?_
      refine g_iload_n (pc := 19) d_MO_shopAtRank_19 rfl 0 rfl ?_
      refine g_cV1 (pc := 20) (ci := 7) (As := [.int _]) d_MO_shopAtRank_20 rfl mv_MO_rankOf st_MO_shopAtRank_293 rfl rfl (by decide) rfl rfl (Nat.le_of_ble_eq_true rfl) k_m (cm_MO_rankOf hM nd hG hU e9) ?_
      refine g_iload_n (pc := 23) d_MO_shopAtRank_23 rfl 2 rfl ?_
      refine g_icmp_ne (pc := 24) (tgt := 29) d_MO_shopAtRank_24 (by decide) (fun c_24 => ?_) (fun c_24 => ?_)
      · skip
        obtain ⟨x_1, hx_1⟩ : ∃ y : Int32, y = (nI k) + 1 := ⟨_, rfl⟩
        refine g_iinc (pc := 29) (w := 0) (v := x_1) (lv' := [(2, .int x_1), (0, .ref m), (1, .int x)]) d_MO_shopAtRank_29 rfl (by rw [hx_1]; rfl) (by decide) rfl ?_
        refine g_goto (pc := 32) (tgt := 7) d_MO_shopAtRank_32 (by decide) ?_
        have e8 : x_1 = nI (k + 1) := by rw [hx_1]; exact nI_1 _
        clear hx_1
        subst e8
        rw [show sc - k = (sc - (k + 1)) + 1 by omega, Q_rank, show sc - (sc - (k + 1) + 1) = k by omega, if_neg c_24]
        exact ih (k + 1) (by omega) (by omega)
      · skip
        refine g_iload_n (pc := 27) d_MO_shopAtRank_27 rfl 0 rfl ?_
        refine g_iret (pc := 28) d_MO_shopAtRank_28 rfl ?_
        rw [show sc - k = (sc - (k + 1)) + 1 by omega, Q_rank, show sc - (sc - (k + 1) + 1) = k by omega, if_pos c_24]
        exact ⟨rfl, rfl⟩
set_option maxRecDepth 20000 in
theorem cm_MO_shopAtRank {E : En} {h : Hp} {m st nw sc : Nat} {c g : Nat → Int32} {B : Bu} {R : List (Nat × (Nat → Int32))} {ni U : Nat} {x : Int32} (hM : MoOk h m st) (nd : (m :: st :: R.map Prod.fst).Nodup) (hG : Gd B nw sc ni U) (hU : U < 2000000000) : CR E m_MO_shopAtRank [.ref m, .int x] (wL h ((m, c) :: (st, enc nw sc B g) :: R)) (some (.int (Q_rank B.2.2 sc x sc))) (wL h ((m, (u1 c 17 0)) :: (st, enc nw sc B g) :: R)) := by
  refine ct_of rfl (by decide +kernel) (Nat.le_of_ble_eq_true rfl) ?_
  show G E m_MO_shopAtRank 0 [(0, .ref m), (1, .int x)] [] (wL h ((m, c) :: (st, enc nw sc B g) :: R)) 0 0 _ noX
  obtain ⟨k_m, r_m_0, k_st, l_st⟩ := id hM
  obtain ⟨hw, n6, hs, s8, h0, hni, n3, ⟨sd, hsd, hsx⟩, hop⟩ := id hG.1
  refine g_aload_n (pc := 0) d_MO_shopAtRank_0 rfl 0 rfl ?_
  refine g_iconst (pc := 1) (v := 0) d_MO_shopAtRank_1 (by decide) ?_
  refine g_lpI0 (pc := 2) (ci := 7) (f := 17) rfl d_MO_shopAtRank_2 fl_MO_52 (fun q hq => by cases hq; exact rfl) rfl rfl (by decide) k_m nd ?_
  refine g_iconst (pc := 5) (v := 0) d_MO_shopAtRank_5 (by decide) ?_
  refine g_nameI (fun x_1 hx_1 => ?_)
  refine g_istore_n (pc := 6) (lv' := [(2, .int x_1), (0, .ref m), (1, .int x)]) d_MO_shopAtRank_6 rfl (by decide) rfl ?_
  subst hx_1
  exact lp_MO_shopAtRank hM nd hG hU (sc + 1) 0 (Nat.zero_le _) (by omega)
set_option maxRecDepth 20000 in
theorem cm_MO_nextGain {E : En} {h : Hp} {m st nw sc : Nat} {c g : Nat → Int32} {B : Bu} {R : List (Nat × (Nat → Int32))} {ni U : Nat} {i : Nat} (hM : MoOk h m st) (nd : (m :: st :: R.map Prod.fst).Nodup) (hG : Gd B nw sc ni U) (hi : i < sc) (hop1 : B.2.2 i 12 = 1) : CR E m_MO_nextGain [.ref m, .int (nI i)] (wL h ((m, c) :: (st, enc nw sc B g) :: R)) (some (.int (M_gain (u1 B.1 9 (B.1 9 + 1)) (M_drift (B.2.2 i)) (M_false (M_drift (B.2.2 i)) (B.1 9 + 1))))) (wL h ((m, (u1 c 17 0)) :: (st, enc nw sc B (KC (enc nw sc B g) 0 12)) :: R)) := by
  refine ct_of rfl (by decide +kernel) (Nat.le_of_ble_eq_true rfl) ?_
  show G E m_MO_nextGain 0 [(0, .ref m), (1, .int (nI i))] [] (wL h ((m, c) :: (st, enc nw sc B g) :: R)) 0 0 _ noX
  obtain ⟨k_m, r_m_0, k_st, l_st⟩ := id hM
  obtain ⟨hw, n6, hs, s8, h0, hni, n3, ⟨sd, hsd, hsx⟩, hop⟩ := id hG.1
  refine g_aload_n (pc := 0) d_MO_nextGain_0 rfl 0 rfl ?_
  refine g_iload_n (pc := 1) d_MO_nextGain_1 rfl 1 rfl ?_
  refine g_cV1 (pc := 2) (ci := 7) (As := [.int _]) d_MO_nextGain_2 rfl mv_MO_lacksShop st_MO_nextGain_284 rfl rfl (by decide) rfl rfl (Nat.le_of_ble_eq_true rfl) k_m (cm_MO_lacksShop hM nd hG hi) ?_
  refine g_if_eq (pc := 5) (tgt := 10) d_MO_nextGain_5 (by decide) (fun c_5 => ?_) (fun c_5 => ?_)
  · skip
    refine g_aload_n (pc := 10) d_MO_nextGain_10 rfl 0 rfl ?_
    refine g_iload_n (pc := 11) d_MO_nextGain_11 rfl 1 rfl ?_
    refine g_cV1 (pc := 12) (ci := 7) (As := [.int _]) d_MO_nextGain_12 rfl mv_MO_isOpenShop st_MO_nextGain_115 rfl rfl (by decide) rfl rfl (Nat.le_of_ble_eq_true rfl) k_m (cm_MO_isOpenShop_t hM nd n6 s8 hi hop1) ?_
    refine g_if_ne (pc := 15) (tgt := 20) d_MO_nextGain_15 (by decide) (fun c_15 => ?_) (fun c_15 => ?_)
    · skip
      refine g_aload_n (pc := 20) d_MO_nextGain_20 rfl 0 rfl ?_
      refine g_iconst (pc := 21) (v := 0) d_MO_nextGain_21 (by decide) ?_
      refine g_bipush (pc := 22) (v := 12) d_MO_nextGain_22 (by decide) ?_
      refine g_cV0 (pc := 24) (ci := 7) (As := [.int _, .int _]) d_MO_nextGain_24 rfl mv_MO_copyBlock st_MO_nextGain_61 rfl rfl (by decide) rfl rfl (Nat.le_of_ble_eq_true rfl) k_m (cm_copy12 hM nd n6 s8) ?_
      refine g_aload_n (pc := 27) d_MO_nextGain_27 rfl 0 rfl ?_
      refine g_getR (pc := 28) (ci := 7) (f := 0) (b := st) rfl r_m_0 d_MO_nextGain_28 fl_MO_7 (by decide) k_m ?_
      refine g_bipush (pc := 31) (v := 9) d_MO_nextGain_31 (by decide) ?_
      refine g_dup2 (pc := 33) d_MO_nextGain_33 rfl rfl ?_
      refine g_mI (pc := 34) (k := 9) d_MO_nextGain_34 k_st l_st (by decide) nd ?_
      refine g_iconst (pc := 35) (v := 1) d_MO_nextGain_35 (by decide) ?_
      refine g_iadd (pc := 36) d_MO_nextGain_36 ?_
      refine g_mIS (pc := 37) (k := 9) d_MO_nextGain_37 k_st l_st (by decide) nd ?_
      refine g_aload_n (pc := 38) d_MO_nextGain_38 rfl 0 rfl ?_
      refine g_iload_n (pc := 39) d_MO_nextGain_39 rfl 1 rfl ?_
      refine g_cV0 (pc := 40) (ci := 7) (As := [.int _]) d_MO_nextGain_40 rfl mv_MO_driftOne st_MO_nextGain_130 rfl rfl (by decide) rfl rfl (Nat.le_of_ble_eq_true rfl) k_m (cm_MO_driftOne hM nd n6 s8 (by first | assumption | omega | decide)) ?_
      refine g_aload_n (pc := 43) d_MO_nextGain_43 rfl 0 rfl ?_
      refine g_aload_n (pc := 44) d_MO_nextGain_44 rfl 0 rfl ?_
      refine g_iload_n (pc := 45) d_MO_nextGain_45 rfl 1 rfl ?_
      refine g_cV1 (pc := 46) (ci := 7) (As := [.int _]) d_MO_nextGain_46 rfl mv_MO_gainNow st_MO_nextGain_93 rfl rfl (by decide) rfl rfl (Nat.le_of_ble_eq_true rfl) k_m (cm_MO_gainNow hM nd n6 s8 (by first | assumption | omega | decide)) ?_
      refine g_cV1 (pc := 49) (ci := 7) (As := [.int _]) d_MO_nextGain_49 rfl mv_MO_endTrial st_MO_nextGain_296 rfl rfl (by decide) rfl rfl (Nat.le_of_ble_eq_true rfl) k_m (cm_MO_endTrial hM nd n6 s8) ?_
      refine g_iret (pc := 52) d_MO_nextGain_52 rfl ?_
      refine ⟨?_, rfl⟩
      simp only [sS_i, sS_1, sC_1]
      rfl
    · exact absurd c_15 (by decide)
  · exact (c_5 (by decide)).elim
set_option maxRecDepth 20000 in
theorem cm_MO_nextGainC {E : En} {h : Hp} {m st nw sc : Nat} {c g : Nat → Int32} {B : Bu} {R : List (Nat × (Nat → Int32))} {ni U : Nat} {i : Nat} (hM : MoOk h m st) (nd : (m :: st :: R.map Prod.fst).Nodup) (hG : Gd B nw sc ni U) (hi : i < sc) (hop1 : B.2.2 i 12 = 0) : CR E m_MO_nextGain [.ref m, .int (nI i)] (wL h ((m, c) :: (st, enc nw sc B g) :: R)) (some (.int 0)) (wL h ((m, (u1 c 17 0)) :: (st, enc nw sc B g) :: R)) := by
  refine ct_of rfl (by decide +kernel) (Nat.le_of_ble_eq_true rfl) ?_
  show G E m_MO_nextGain 0 [(0, .ref m), (1, .int (nI i))] [] (wL h ((m, c) :: (st, enc nw sc B g) :: R)) 0 0 _ noX
  obtain ⟨k_m, r_m_0, k_st, l_st⟩ := id hM
  obtain ⟨hw, n6, hs, s8, h0, hni, n3, ⟨sd, hsd, hsx⟩, hop⟩ := id hG.1
  refine g_aload_n (pc := 0) d_MO_nextGain_0 rfl 0 rfl ?_
  refine g_iload_n (pc := 1) d_MO_nextGain_1 rfl 1 rfl ?_
  refine g_cV1 (pc := 2) (ci := 7) (As := [.int _]) d_MO_nextGain_2 rfl mv_MO_lacksShop st_MO_nextGain_284 rfl rfl (by decide) rfl rfl (Nat.le_of_ble_eq_true rfl) k_m (cm_MO_lacksShop hM nd hG hi) ?_
  refine g_if_eq (pc := 5) (tgt := 10) d_MO_nextGain_5 (by decide) (fun c_5 => ?_) (fun c_5 => ?_)
  · skip
    refine g_aload_n (pc := 10) d_MO_nextGain_10 rfl 0 rfl ?_
    refine g_iload_n (pc := 11) d_MO_nextGain_11 rfl 1 rfl ?_
    refine g_cV1 (pc := 12) (ci := 7) (As := [.int _]) d_MO_nextGain_12 rfl mv_MO_isOpenShop st_MO_nextGain_115 rfl rfl (by decide) rfl rfl (Nat.le_of_ble_eq_true rfl) k_m (cm_MO_isOpenShop_f hM nd n6 s8 hi hop1) ?_
    refine g_if_ne (pc := 15) (tgt := 20) d_MO_nextGain_15 (by decide) (fun c_15 => ?_) (fun c_15 => ?_)
    · exact (c_15 (by decide)).elim
    · skip
      refine g_iconst (pc := 18) (v := 0) d_MO_nextGain_18 (by decide) ?_
      refine g_iret (pc := 19) d_MO_nextGain_19 rfl ?_
      first | exact ⟨rfl, rfl⟩ | (rw [u1_u1]; exact ⟨rfl, rfl⟩)
  · exact (c_5 (by decide)).elim
set_option maxRecDepth 20000 in
theorem cm_MO_nextVisited {E : En} {h : Hp} {m st nw sc : Nat} {c g : Nat → Int32} {B : Bu} {R : List (Nat × (Nat → Int32))} {ni U : Nat} (hM : MoOk h m st) (nd : (m :: st :: R.map Prod.fst).Nodup) (hG : Gd B nw sc ni U) (hU : U < 2000000000) (hn0 : ¬ B.1 5 = 0) : CR E m_MO_nextVisited [.ref m] (wL h ((m, c) :: (st, enc nw sc B g) :: R)) (some (.int (oI (P_choose (P_trade sc (P_begin sc B)) sc).1))) (wL h ((m, (u1 c 17 0)) :: (st, enc nw sc B (KC (enc nw sc B g) 0 12)) :: R)) := by
  refine ct_of rfl (by decide +kernel) (Nat.le_of_ble_eq_true rfl) ?_
  show G E m_MO_nextVisited 0 [(0, .ref m)] [] (wL h ((m, c) :: (st, enc nw sc B g) :: R)) 0 0 _ noX
  obtain ⟨k_m, r_m_0, k_st, l_st⟩ := id hM
  obtain ⟨hw, n6, hs, s8, h0, hni, n3, ⟨sd, hsd, hsx⟩, hop⟩ := id hG.1
  refine g_aload_n (pc := 0) d_MO_nextVisited_0 rfl 0 rfl ?_
  refine g_iconst (pc := 1) (v := 0) d_MO_nextVisited_1 (by decide) ?_
  refine g_lpI0 (pc := 2) (ci := 7) (f := 17) rfl d_MO_nextVisited_2 fl_MO_52 (fun q hq => by cases hq; exact rfl) rfl rfl (by decide) k_m nd ?_
  refine g_aload_n (pc := 5) d_MO_nextVisited_5 rfl 0 rfl ?_
  refine g_getR (pc := 6) (ci := 7) (f := 0) (b := st) rfl r_m_0 d_MO_nextVisited_6 fl_MO_7 (by decide) k_m ?_
  refine g_iconst (pc := 9) (v := 5) d_MO_nextVisited_9 (by decide) ?_
  refine g_mI (pc := 10) (k := 5) d_MO_nextVisited_10 k_st l_st (by decide) nd ?_
  refine g_if_ne (pc := 11) (tgt := 16) d_MO_nextVisited_11 (by decide) (fun c_11 => ?_) (fun c_11 => ?_)
  · skip
    refine g_aload_n (pc := 16) d_MO_nextVisited_16 rfl 0 rfl ?_
    refine g_iconst (pc := 17) (v := 0) d_MO_nextVisited_17 (by decide) ?_
    refine g_bipush (pc := 18) (v := 12) d_MO_nextVisited_18 (by decide) ?_
    refine g_cV0 (pc := 20) (ci := 7) (As := [.int _, .int _]) d_MO_nextVisited_20 rfl mv_MO_copyBlock st_MO_nextVisited_61 rfl rfl (by decide) rfl rfl (Nat.le_of_ble_eq_true rfl) k_m (cm_copy12 hM nd n6 s8) ?_
    refine g_aload_n (pc := 23) d_MO_nextVisited_23 rfl 0 rfl ?_
    refine g_cV0 (pc := 24) (ci := 7) (As := []) d_MO_nextVisited_24 rfl mv_MO_beginDay st_MO_nextVisited_136 rfl rfl (by decide) rfl rfl (Nat.le_of_ble_eq_true rfl) k_m (cm_MO_beginDay hM nd hG) ?_
    refine g_aload_n (pc := 27) d_MO_nextVisited_27 rfl 0 rfl ?_
    refine g_aload_n (pc := 28) d_MO_nextVisited_28 rfl 0 rfl ?_
    refine g_cV1 (pc := 29) (ci := 7) (As := []) d_MO_nextVisited_29 rfl mv_MO_choose st_MO_nextVisited_139 rfl rfl (by decide) rfl rfl (Nat.le_of_ble_eq_true rfl) k_m (cm_MO_choose hM nd (Gd_trade (Gd_begin hG) hU)) ?_
    refine g_cV1 (pc := 32) (ci := 7) (As := [.int _]) d_MO_nextVisited_32 rfl mv_MO_endTrial st_MO_nextVisited_296 rfl rfl (by decide) rfl rfl (Nat.le_of_ble_eq_true rfl) k_m (cm_MO_endTrial hM nd n6 s8) ?_
    refine g_iret (pc := 35) d_MO_nextVisited_35 rfl ?_
    first | exact ⟨rfl, rfl⟩ | (rw [u1_u1]; exact ⟨rfl, rfl⟩)
  · exact absurd (show B.1 5 = 0 from c_11) hn0
set_option maxRecDepth 20000 in
theorem cm_MO_nextVisitedZ {E : En} {h : Hp} {m st nw sc : Nat} {c g : Nat → Int32} {B : Bu} {R : List (Nat × (Nat → Int32))} {ni U : Nat} (hM : MoOk h m st) (nd : (m :: st :: R.map Prod.fst).Nodup) (hG : Gd B nw sc ni U) (hn0 : B.1 5 = 0) : CR E m_MO_nextVisited [.ref m] (wL h ((m, c) :: (st, enc nw sc B g) :: R)) (some (.int (-1))) (wL h ((m, (u1 c 17 0)) :: (st, enc nw sc B g) :: R)) := by
  refine ct_of rfl (by decide +kernel) (Nat.le_of_ble_eq_true rfl) ?_
  show G E m_MO_nextVisited 0 [(0, .ref m)] [] (wL h ((m, c) :: (st, enc nw sc B g) :: R)) 0 0 _ noX
  obtain ⟨k_m, r_m_0, k_st, l_st⟩ := id hM
  obtain ⟨hw, n6, hs, s8, h0, hni, n3, ⟨sd, hsd, hsx⟩, hop⟩ := id hG.1
  refine g_aload_n (pc := 0) d_MO_nextVisited_0 rfl 0 rfl ?_
  refine g_iconst (pc := 1) (v := 0) d_MO_nextVisited_1 (by decide) ?_
  refine g_lpI0 (pc := 2) (ci := 7) (f := 17) rfl d_MO_nextVisited_2 fl_MO_52 (fun q hq => by cases hq; exact rfl) rfl rfl (by decide) k_m nd ?_
  refine g_aload_n (pc := 5) d_MO_nextVisited_5 rfl 0 rfl ?_
  refine g_getR (pc := 6) (ci := 7) (f := 0) (b := st) rfl r_m_0 d_MO_nextVisited_6 fl_MO_7 (by decide) k_m ?_
  refine g_iconst (pc := 9) (v := 5) d_MO_nextVisited_9 (by decide) ?_
  refine g_mI (pc := 10) (k := 5) d_MO_nextVisited_10 k_st l_st (by decide) nd ?_
  refine g_if_ne (pc := 11) (tgt := 16) d_MO_nextVisited_11 (by decide) (fun c_11 => ?_) (fun c_11 => ?_)
  · exact absurd hn0 c_11
  · skip
    refine g_iconst (pc := 14) (v := (-1)) d_MO_nextVisited_14 (by decide) ?_
    refine g_iret (pc := 15) d_MO_nextVisited_15 rfl ?_
    first | exact ⟨rfl, rfl⟩ | (rw [u1_u1]; exact ⟨rfl, rfl⟩)
theorem lp_MO_daysUntilFalse {E : En} {h : Hp} {m st nw sc : Nat} {c g : Nat → Int32} {B : Bu} {R : List (Nat × (Nat → Int32))} {ni U : Nat} {i : Nat} (hM : MoOk h m st) (nd : (m :: st :: R.map Prod.fst).Nodup) (hG : Gd B nw sc ni U) (hi : i < sc) : ∀ (d k : Nat) (s : Nat → Int32), k + d = 1000 → G E m_MO_daysUntilFalse 19 [(2, .int (nI k)), (0, .ref m), (1, .int (nI i))] [] (wL h ((m, c) :: (st, enc nw sc (sS B i s) (KC (enc nw sc B g) 0 12)) :: R)) 0 0 (fun v1 h1 => v1 = some (.int (Q_false B.1 B.2.1 nw (d + 1) k s)) ∧ h1 = wL h ((m, c) :: (st, enc nw sc B (KC (enc nw sc B g) 0 12)) :: R)) noX := by
  obtain ⟨k_m, r_m_0, k_st, l_st⟩ := id hM
  obtain ⟨hw, n6, hs, s8, h0, hni, n3, ⟨sd, hsd, hsx⟩, hop⟩ := id hG.1
  intro d
  induction d with
  | zero =>
    intro k s hd
    refine g_aload_n (pc := 19) d_MO_daysUntilFalse_19 rfl 1 rfl ?_
    refine g_iload_n (pc := 20) d_MO_daysUntilFalse_20 rfl 2 rfl ?_
    refine g_cV1 (pc := 21) (ci := 7) (As := [.int _]) d_MO_daysUntilFalse_21 rfl mv_MO_isRight st_MO_daysUntilFalse_99 rfl rfl (by decide) rfl rfl (Nat.le_of_ble_eq_true rfl) k_m (cm_MO_isRight hM nd n6 s8 hi hw) ?_
    refine g_top (y := bI (decide ((M_tot B.1 B.2.1 s nw) = 0))) (by simp only [sS_i, sS_1, sS_21]) ?_
    refine g_if_eq (pc := 24) (tgt := 45) d_MO_daysUntilFalse_24 (by decide) (fun c_24 => ?_) (fun c_24 => ?_)
    · skip
      have z1 : ¬ (M_tot B.1 B.2.1 s nw) = 0 := of_decide_eq_false (bI_0.mp c_24)
      refine g_aload_n (pc := 45) d_MO_daysUntilFalse_45 rfl 1 rfl ?_
      refine g_aload_n (pc := 46) d_MO_daysUntilFalse_46 rfl 1 rfl ?_
      refine g_iload_n (pc := 47) d_MO_daysUntilFalse_47 rfl 2 rfl ?_
      refine g_cV1 (pc := 48) (ci := 7) (As := [.int _]) d_MO_daysUntilFalse_48 rfl mv_MO_isRight st_MO_daysUntilFalse_99 rfl rfl (by decide) rfl rfl (Nat.le_of_ble_eq_true rfl) k_m (cm_MO_isRight hM nd n6 s8 hi hw) ?_
      refine g_top (y := bI (decide ((M_tot B.1 B.2.1 s nw) = 0))) (by simp only [sS_i, sS_1, sS_21]) ?_
      refine g_if_eq (pc := 51) (tgt := 58) d_MO_daysUntilFalse_51 (by decide) (fun c_51 => ?_) (fun c_51 => ?_)
      · skip
        refine g_iload_n (pc := 58) d_MO_daysUntilFalse_58 rfl 0 rfl ?_
        refine g_cV1 (pc := 59) (ci := 7) (As := [.int _]) d_MO_daysUntilFalse_59 rfl mv_MO_endTrial st_MO_daysUntilFalse_296 rfl rfl (by decide) rfl rfl (Nat.le_of_ble_eq_true rfl) k_m (cm_MO_endTrial hM nd n6 s8) ?_
        refine g_iret (pc := 62) d_MO_daysUntilFalse_62 rfl ?_
        rw [Q_false, if_neg z1]
        exact ⟨rfl, rfl⟩
      · exact absurd (of_decide_eq_true (bI_n0 c_51)) z1
    · skip
      have z1 : (M_tot B.1 B.2.1 s nw) = 0 := of_decide_eq_true (bI_n0 c_24)
      refine g_iload_n (pc := 27) d_MO_daysUntilFalse_27 rfl 0 rfl ?_
      refine g_sipush (pc := 28) (v := 1000) d_MO_daysUntilFalse_28 (by decide) ?_
      refine g_icmp_ge (pc := 31) (tgt := 45) d_MO_daysUntilFalse_31 (by decide) (fun c_31 => ?_) (fun c_31 => ?_)
      · skip
        refine g_aload_n (pc := 45) d_MO_daysUntilFalse_45 rfl 1 rfl ?_
        refine g_aload_n (pc := 46) d_MO_daysUntilFalse_46 rfl 1 rfl ?_
        refine g_iload_n (pc := 47) d_MO_daysUntilFalse_47 rfl 2 rfl ?_
        refine g_cV1 (pc := 48) (ci := 7) (As := [.int _]) d_MO_daysUntilFalse_48 rfl mv_MO_isRight st_MO_daysUntilFalse_99 rfl rfl (by decide) rfl rfl (Nat.le_of_ble_eq_true rfl) k_m (cm_MO_isRight hM nd n6 s8 hi hw) ?_
        refine g_top (y := bI (decide ((M_tot B.1 B.2.1 s nw) = 0))) (by simp only [sS_i, sS_1, sS_21]) ?_
        refine g_if_eq (pc := 51) (tgt := 58) d_MO_daysUntilFalse_51 (by decide) (fun c_51 => ?_) (fun c_51 => ?_)
        · exact absurd (of_decide_eq_false (bI_0.mp c_51)) (fun z => z z1)
        · skip
          refine g_iconst (pc := 54) (v := (-1)) d_MO_daysUntilFalse_54 (by decide) ?_
          refine g_goto (pc := 55) (tgt := 59) d_MO_daysUntilFalse_55 (by decide) ?_
          refine g_cV1 (pc := 59) (ci := 7) (As := [.int _]) d_MO_daysUntilFalse_59 rfl mv_MO_endTrial st_MO_daysUntilFalse_296 rfl rfl (by decide) rfl rfl (Nat.le_of_ble_eq_true rfl) k_m (cm_MO_endTrial hM nd n6 s8) ?_
          refine g_iret (pc := 62) d_MO_daysUntilFalse_62 rfl ?_
          rw [Q_false, if_pos z1]
          exact ⟨rfl, rfl⟩
      · exact absurd ((nI_leI (a := 1000) (b := k) (by omega) (by omega)).mpr (by omega)) c_31
  | succ d ih =>
    intro k s hd
    refine g_aload_n (pc := 19) d_MO_daysUntilFalse_19 rfl 1 rfl ?_
    refine g_iload_n (pc := 20) d_MO_daysUntilFalse_20 rfl 2 rfl ?_
    refine g_cV1 (pc := 21) (ci := 7) (As := [.int _]) d_MO_daysUntilFalse_21 rfl mv_MO_isRight st_MO_daysUntilFalse_99 rfl rfl (by decide) rfl rfl (Nat.le_of_ble_eq_true rfl) k_m (cm_MO_isRight hM nd n6 s8 hi hw) ?_
    refine g_top (y := bI (decide ((M_tot B.1 B.2.1 s nw) = 0))) (by simp only [sS_i, sS_1, sS_21]) ?_
    refine g_if_eq (pc := 24) (tgt := 45) d_MO_daysUntilFalse_24 (by decide) (fun c_24 => ?_) (fun c_24 => ?_)
    · skip
      have z1 : ¬ (M_tot B.1 B.2.1 s nw) = 0 := of_decide_eq_false (bI_0.mp c_24)
      refine g_aload_n (pc := 45) d_MO_daysUntilFalse_45 rfl 1 rfl ?_
      refine g_aload_n (pc := 46) d_MO_daysUntilFalse_46 rfl 1 rfl ?_
      refine g_iload_n (pc := 47) d_MO_daysUntilFalse_47 rfl 2 rfl ?_
      refine g_cV1 (pc := 48) (ci := 7) (As := [.int _]) d_MO_daysUntilFalse_48 rfl mv_MO_isRight st_MO_daysUntilFalse_99 rfl rfl (by decide) rfl rfl (Nat.le_of_ble_eq_true rfl) k_m (cm_MO_isRight hM nd n6 s8 hi hw) ?_
      refine g_top (y := bI (decide ((M_tot B.1 B.2.1 s nw) = 0))) (by simp only [sS_i, sS_1, sS_21]) ?_
      refine g_if_eq (pc := 51) (tgt := 58) d_MO_daysUntilFalse_51 (by decide) (fun c_51 => ?_) (fun c_51 => ?_)
      · skip
        refine g_iload_n (pc := 58) d_MO_daysUntilFalse_58 rfl 0 rfl ?_
        refine g_cV1 (pc := 59) (ci := 7) (As := [.int _]) d_MO_daysUntilFalse_59 rfl mv_MO_endTrial st_MO_daysUntilFalse_296 rfl rfl (by decide) rfl rfl (Nat.le_of_ble_eq_true rfl) k_m (cm_MO_endTrial hM nd n6 s8) ?_
        refine g_iret (pc := 62) d_MO_daysUntilFalse_62 rfl ?_
        rw [Q_false, if_neg z1]
        exact ⟨rfl, rfl⟩
      · exact absurd (of_decide_eq_true (bI_n0 c_51)) z1
    · skip
      have z1 : (M_tot B.1 B.2.1 s nw) = 0 := of_decide_eq_true (bI_n0 c_24)
      refine g_iload_n (pc := 27) d_MO_daysUntilFalse_27 rfl 0 rfl ?_
      refine g_sipush (pc := 28) (v := 1000) d_MO_daysUntilFalse_28 (by decide) ?_
      refine g_icmp_ge (pc := 31) (tgt := 45) d_MO_daysUntilFalse_31 (by decide) (fun c_31 => ?_) (fun c_31 => ?_)
      · exact absurd ((nI_leI (a := 1000) (by omega) (by omega)).mp c_31) (by omega)
      · skip
        refine g_aload_n (pc := 34) d_MO_daysUntilFalse_34 rfl 1 rfl ?_
        refine g_iload_n (pc := 35) d_MO_daysUntilFalse_35 rfl 2 rfl ?_
        refine g_cV0 (pc := 36) (ci := 7) (As := [.int _]) d_MO_daysUntilFalse_36 rfl mv_MO_driftOne st_MO_daysUntilFalse_130 rfl rfl (by decide) rfl rfl (Nat.le_of_ble_eq_true rfl) k_m (cm_MO_driftOne hM nd n6 s8 hi) ?_
        obtain ⟨x_1, hx_1⟩ : ∃ y : Int32, y = (nI k) + 1 := ⟨_, rfl⟩
        refine g_iinc (pc := 39) (w := 0) (v := x_1) (lv' := [(2, .int x_1), (0, .ref m), (1, .int (nI i))]) d_MO_daysUntilFalse_39 rfl (by rw [hx_1]; rfl) (by decide) rfl ?_
        refine g_goto (pc := 42) (tgt := 19) d_MO_daysUntilFalse_42 (by decide) ?_
        have e8 : x_1 = nI (k + 1) := by rw [hx_1]; exact nI_1 _
        clear hx_1
        subst e8
        rw [sS_sS, sS_i]
        rw [Q_false, if_pos z1]
        exact ih (k + 1) (M_drift s) (by omega)
set_option maxRecDepth 20000 in
theorem cm_MO_daysUntilFalse {E : En} {h : Hp} {m st nw sc : Nat} {c g : Nat → Int32} {B : Bu} {R : List (Nat × (Nat → Int32))} {ni U : Nat} {i : Nat} (hM : MoOk h m st) (nd : (m :: st :: R.map Prod.fst).Nodup) (hG : Gd B nw sc ni U) (hi : i < sc) : CR E m_MO_daysUntilFalse [.ref m, .int (nI i)] (wL h ((m, c) :: (st, enc nw sc B g) :: R)) (some (.int (Q_false B.1 B.2.1 nw 1001 0 (B.2.2 i)))) (wL h ((m, (u1 c 17 0)) :: (st, enc nw sc B (KC (enc nw sc B g) 0 12)) :: R)) := by
  refine ct_of rfl (by decide +kernel) (Nat.le_of_ble_eq_true rfl) ?_
  show G E m_MO_daysUntilFalse 0 [(0, .ref m), (1, .int (nI i))] [] (wL h ((m, c) :: (st, enc nw sc B g) :: R)) 0 0 _ noX
  obtain ⟨k_m, r_m_0, k_st, l_st⟩ := id hM
  obtain ⟨hw, n6, hs, s8, h0, hni, n3, ⟨sd, hsd, hsx⟩, hop⟩ := id hG.1
  refine g_aload_n (pc := 0) d_MO_daysUntilFalse_0 rfl 0 rfl ?_
  refine g_iload_n (pc := 1) d_MO_daysUntilFalse_1 rfl 1 rfl ?_
  refine g_cV1 (pc := 2) (ci := 7) (As := [.int _]) d_MO_daysUntilFalse_2 rfl mv_MO_lacksShop st_MO_daysUntilFalse_284 rfl rfl (by decide) rfl rfl (Nat.le_of_ble_eq_true rfl) k_m (cm_MO_lacksShop hM nd hG hi) ?_
  refine g_if_eq (pc := 5) (tgt := 10) d_MO_daysUntilFalse_5 (by decide) (fun c_5 => ?_) (fun c_5 => ?_)
  · skip
    refine g_aload_n (pc := 10) d_MO_daysUntilFalse_10 rfl 0 rfl ?_
    refine g_iconst (pc := 11) (v := 0) d_MO_daysUntilFalse_11 (by decide) ?_
    refine g_bipush (pc := 12) (v := 12) d_MO_daysUntilFalse_12 (by decide) ?_
    refine g_cV0 (pc := 14) (ci := 7) (As := [.int _, .int _]) d_MO_daysUntilFalse_14 rfl mv_MO_copyBlock st_MO_daysUntilFalse_61 rfl rfl (by decide) rfl rfl (Nat.le_of_ble_eq_true rfl) k_m (cm_copy12 hM nd n6 s8) ?_
    refine g_iconst (pc := 17) (v := 0) d_MO_daysUntilFalse_17 (by decide) ?_
    refine g_nameI (fun x_1 hx_1 => ?_)
    refine g_istore_n (pc := 18) (lv' := [(2, .int x_1), (0, .ref m), (1, .int (nI i))]) d_MO_daysUntilFalse_18 rfl (by decide) rfl ?_
    subst hx_1
    refine g_h (h' := wL h ((m, (u1 c 17 0)) :: (st, enc nw sc (sS B i (B.2.2 i)) (KC (enc nw sc B g) 0 12)) :: R)) (by rw [sS_self]) ?_
    exact lp_MO_daysUntilFalse (c := u1 c 17 0) hM nd hG hi 1000 0 (B.2.2 i) (by omega)
  · exact (c_5 (by decide)).elim
set_option maxRecDepth 20000 in
theorem cm_MO_purseBehind {E : En} {h : Hp} {m st nw sc : Nat} {c g : Nat → Int32} {B B1 : Bu} {R : List (Nat × (Nat → Int32))} {ni U : Nat} {i : Nat} {days : Nat} (hM : MoOk h m st) (nd : (m :: st :: R.map Prod.fst).Nodup) (n6 : nw ≤ 6) (s8 : sc ≤ 8) (hG1 : Gd B1 nw sc ni U) (hU : U + days ≤ 2000000000) (hi : i < sc) : CR E m_MO_purseBehind [.ref m, .int (nI i), .int (nI days)] (wL h ((m, c) :: (st, enc nw sc B1 (KC (enc nw sc B g) 0 12)) :: R)) (some (.int (Q_purse B1 nw sc ni i days))) (wL h ((m, c) :: (st, enc nw sc B (KC (enc nw sc B g) 0 12)) :: R)) := by
  refine ct_of rfl (by decide +kernel) (Nat.le_of_ble_eq_true rfl) ?_
  show G E m_MO_purseBehind 0 [(0, .ref m), (1, .int (nI i)), (2, .int (nI days))] [] (wL h ((m, c) :: (st, enc nw sc B1 (KC (enc nw sc B g) 0 12)) :: R)) 0 0 _ noX
  obtain ⟨k_m, r_m_0, k_st, l_st⟩ := id hM
  refine g_aload_n (pc := 0) d_MO_purseBehind_0 rfl 0 rfl ?_
  refine g_iload_n (pc := 1) d_MO_purseBehind_1 rfl 2 rfl ?_
  refine g_cV1 (pc := 2) (ci := 7) (As := [.int _]) d_MO_purseBehind_2 rfl mv_MO_passAll st_MO_purseBehind_275 rfl rfl (by decide) rfl rfl (Nat.le_of_ble_eq_true rfl) k_m (cm_MO_passAll hM nd hG1 hU) ?_
  refine g_pop (pc := 5) d_MO_purseBehind_5 rfl ?_
  refine g_aload_n (pc := 6) d_MO_purseBehind_6 rfl 0 rfl ?_
  refine g_aload_n (pc := 7) d_MO_purseBehind_7 rfl 0 rfl ?_
  refine g_iload_n (pc := 8) d_MO_purseBehind_8 rfl 1 rfl ?_
  refine g_iconst (pc := 9) (v := 0) d_MO_purseBehind_9 (by decide) ?_
  refine g_cV1 (pc := 10) (ci := 7) (As := [.int _, .int _]) d_MO_purseBehind_10 rfl mv_MO_of st_MO_purseBehind_69 rfl rfl (by decide) rfl rfl (Nat.le_of_ble_eq_true rfl) k_m (cm_MO_of (k := 0) hM nd n6 s8 hi (by decide)) ?_
  refine g_cV1 (pc := 13) (ci := 7) (As := [.int _]) d_MO_purseBehind_13 rfl mv_MO_endTrial st_MO_purseBehind_296 rfl rfl (by decide) rfl rfl (Nat.le_of_ble_eq_true rfl) k_m (cm_MO_endTrial hM nd n6 s8) ?_
  refine g_iret (pc := 16) d_MO_purseBehind_16 rfl ?_
  exact ⟨rfl, rfl⟩
set_option maxRecDepth 20000 in
theorem cm_MO_purseAfter {E : En} {h : Hp} {m st nw sc : Nat} {c g : Nat → Int32} {B : Bu} {R : List (Nat × (Nat → Int32))} {ni U : Nat} {i : Nat} {days : Nat} (hM : MoOk h m st) (nd : (m :: st :: R.map Prod.fst).Nodup) (hG : Gd B nw sc ni U) (hi : i < sc) (hU : U + days ≤ 2000000000) (hr1 : (0 : Int32) ≤ nI days) (hr2 : nI days ≤ 200) : CR E m_MO_purseAfter [.ref m, .int (nI i), .int (nI days)] (wL h ((m, c) :: (st, enc nw sc B g) :: R)) (some (.int (Q_purse B nw sc ni i days))) (wL h ((m, (u1 c 17 0)) :: (st, enc nw sc B (KC (enc nw sc B g) 0 12)) :: R)) := by
  refine ct_of rfl (by decide +kernel) (Nat.le_of_ble_eq_true rfl) ?_
  show G E m_MO_purseAfter 0 [(0, .ref m), (1, .int (nI i)), (2, .int (nI days))] [] (wL h ((m, c) :: (st, enc nw sc B g) :: R)) 0 0 _ noX
  obtain ⟨k_m, r_m_0, k_st, l_st⟩ := id hM
  obtain ⟨hw, n6, hs, s8, h0, hni, n3, ⟨sd, hsd, hsx⟩, hop⟩ := id hG.1
  refine g_aload_n (pc := 0) d_MO_purseAfter_0 rfl 0 rfl ?_
  refine g_iload_n (pc := 1) d_MO_purseAfter_1 rfl 1 rfl ?_
  refine g_cV1 (pc := 2) (ci := 7) (As := [.int _]) d_MO_purseAfter_2 rfl mv_MO_lacksShop st_MO_purseAfter_284 rfl rfl (by decide) rfl rfl (Nat.le_of_ble_eq_true rfl) k_m (cm_MO_lacksShop hM nd hG hi) ?_
  refine g_if_ne (pc := 5) (tgt := 32) d_MO_purseAfter_5 (by decide) (fun c_5 => ?_) (fun c_5 => ?_)
  · exact (c_5 (by decide)).elim
  · skip
    refine g_aload_n (pc := 8) d_MO_purseAfter_8 rfl 0 rfl ?_
    refine g_iload_n (pc := 9) d_MO_purseAfter_9 rfl 2 rfl ?_
    refine g_iconst (pc := 10) (v := 0) d_MO_purseAfter_10 (by decide) ?_
    refine g_sipush (pc := 11) (v := 200) d_MO_purseAfter_11 (by decide) ?_
    refine g_cS1 (pc := 14) (As := [.int _, .int _, .int _]) d_MO_purseAfter_14 rfl ms_MO_in st_MO_purseAfter_161 rfl rfl (Nat.le_of_ble_eq_true rfl) (cm_MO_in_t hr1 hr2) ?_
    refine g_if_ne (pc := 17) (tgt := 24) d_MO_purseAfter_17 (by decide) (fun c_17 => ?_) (fun c_17 => ?_)
    · skip
      refine g_iconst (pc := 24) (v := 0) d_MO_purseAfter_24 (by decide) ?_
      refine g_iconst (pc := 25) (v := 2) d_MO_purseAfter_25 (by decide) ?_
      refine g_cV1 (pc := 26) (ci := 7) (As := [.int _, .int _]) d_MO_purseAfter_26 rfl mv_MO_throwsIf st_MO_purseAfter_154 rfl rfl (by decide) rfl rfl (Nat.le_of_ble_eq_true rfl) k_m (cm_MO_throwsIf_f k_m nd) ?_
      refine g_if_eq (pc := 29) (tgt := 34) d_MO_purseAfter_29 (by decide) (fun c_29 => ?_) (fun c_29 => ?_)
      · skip
        refine g_aload_n (pc := 34) d_MO_purseAfter_34 rfl 0 rfl ?_
        refine g_iconst (pc := 35) (v := 0) d_MO_purseAfter_35 (by decide) ?_
        refine g_bipush (pc := 36) (v := 12) d_MO_purseAfter_36 (by decide) ?_
        refine g_cV0 (pc := 38) (ci := 7) (As := [.int _, .int _]) d_MO_purseAfter_38 rfl mv_MO_copyBlock st_MO_purseAfter_61 rfl rfl (by decide) rfl rfl (Nat.le_of_ble_eq_true rfl) k_m (cm_copy12 hM nd n6 s8) ?_
        refine g_aload_n (pc := 41) d_MO_purseAfter_41 rfl 0 rfl ?_
        refine g_iload_n (pc := 42) d_MO_purseAfter_42 rfl 1 rfl ?_
        refine g_iload_n (pc := 43) d_MO_purseAfter_43 rfl 2 rfl ?_
        refine g_cV1 (pc := 44) (ci := 7) (As := [.int _, .int _]) d_MO_purseAfter_44 rfl mv_MO_purseBehind st_MO_purseAfter_299 rfl rfl (by decide) rfl rfl (Nat.le_of_ble_eq_true rfl) k_m (cm_MO_purseBehind hM nd n6 s8 hG hU hi) ?_
        refine g_iret (pc := 47) d_MO_purseAfter_47 rfl ?_
        first | exact ⟨rfl, rfl⟩ | (rw [u1_u1]; exact ⟨rfl, rfl⟩)
      · exact (c_29 (by decide)).elim
    · exact absurd c_17 (by decide)
