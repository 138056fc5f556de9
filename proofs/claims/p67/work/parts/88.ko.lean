/-! THE LAW: what seen looks at -/
theorem dq_0 (a : Int32) {b : Int32} (hb : ¬ b = 0) : Op.cmpValue (FP.dcmp (FP.ddiv (FP.i2d a) (FP.i2d b)) (FP.ddiv (FP.i2d a) (FP.i2d b))) .l = 0 := by
  have h1 : FP.Core.dIsNaN (FP.Core.i2d a) = false := by rw [Bool.eq_false_iff]; intro z; exact (FP.Core.i2d_fin a).ne_nan ((FP.Core.dIsNaN_iff _).mp z)
  have h2 : ¬ FP.Core.DZero (FP.Core.i2d b) := fun z => FP.Core.i2d_ne_zero hb ((FP.Core.zero_bits2 _).mp z)
  have h3 : FP.Core.dIsNaN (FP.Core.ddiv (FP.Core.i2d a) (FP.Core.i2d b)) = false := FP.Core.ddiv_out h1 (FP.Core.i2d_fin b) h2
  rw [FP.ddiv_core, FP.i2d_core, FP.dcmp_core, FP.Core.dcmp_refl h3]
  rfl
theorem fq_0 (a : Int32) {b : Int32} (hb : ¬ b = 0) : Op.cmpValue (FP.fcmp (FP.fdiv (FP.i2f a) (FP.i2f b)) (FP.fdiv (FP.i2f a) (FP.i2f b))) .l = 0 := by
  have h1 : FP.Core.fIsNaN (FP.Core.i2f a) = false := by rw [Bool.eq_false_iff]; intro z; exact (FP.Core.i2f_fin a).ne_nan ((FP.Core.fIsNaN_iff _).mp z)
  have h2 : ¬ FP.Core.FZero (FP.Core.i2f b) := fun z => FP.Core.i2f_ne_zero hb ((FP.Core.zero_bits232 _).mp z)
  have h3 : FP.Core.fIsNaN (FP.Core.fdiv (FP.Core.i2f a) (FP.Core.i2f b)) = false := FP.Core.fdiv_out h1 (FP.Core.i2f_fin b) h2
  rw [FP.fdiv_core, FP.i2f_core, FP.fcmp_core, FP.Core.fcmp_self ((FP.Core.notNaN_iff32 _).mp h3)]
  rfl
section
variable {nw sc ni T i : Nat} {L B : Bu} {c c' w w' : Nat → Int32} {s s' : Nat → Nat → Int32}
theorem worst_t {c w s : Nat → Int32} {q : Nat} (h : M_exc c s (w q) ≤ M_exc c s (w (P_worst c w s (q - 1)))) : P_worst c w s q = P_worst c w s (q - 1) := by
  cases q with
  | zero => rfl
  | succ q => rw [P_worst]; exact if_pos h
theorem worst_f {c w s : Nat → Int32} {q : Nat} (h : ¬ M_exc c s (w q) ≤ M_exc c s (w (P_worst c w s (q - 1)))) : P_worst c w s q = q := by
  cases q with
  | zero => rfl
  | succ q => rw [P_worst]; exact if_neg h
theorem fined_t {q : Nat} (h : s q 13 ≤ s (Q_fined s (q - 1)) 13) : Q_fined s q = Q_fined s (q - 1) := by
  cases q with
  | zero => rfl
  | succ q => rw [Q_fined]; exact if_pos h
theorem fined_f {q : Nat} (h : ¬ s q 13 ≤ s (Q_fined s (q - 1)) 13) : Q_fined s q = q := by
  cases q with
  | zero => rfl
  | succ q => rw [Q_fined]; exact if_neg h
theorem P_worst_J {s s' : Nat → Int32} (hc : Jc c c') (hw : ∀ j, j < nw → w j = w' j) (hs : Js s s') : ∀ n, n < nw → P_worst c w s n = P_worst c' w' s' n
  | 0, _ => rfl
  | n + 1, h => by
    have hl := P_worst_le c' w' s' n
    rw [P_worst, P_worst, P_worst_J hc hw hs n (by omega), hw (n + 1) h, hw _ (by omega), M_exc_J hc hs, M_exc_J hc hs]
theorem Q_fined_J (h : ∀ i, i < sc → s i 13 = s' i 13) : ∀ n, n < sc → Q_fined s n = Q_fined s' n
  | 0, _ => rfl
  | n + 1, hn => by
    have hl := Q_fined_le s' n
    rw [Q_fined, Q_fined, Q_fined_J h n (by omega), h (n + 1) hn, h _ (by omega)]
theorem Q_sum_J (J : Jq nw sc L B) : ∀ n, n ≤ sc → Q_sum L.1 L.2.1 L.2.2 nw n = Q_sum B.1 B.2.1 B.2.2 nw n
  | 0, _ => rfl
  | n + 1, h => by rw [Q_sum, Q_sum, Q_sum_J J n (by omega), J.tot (by omega)]
theorem Q_true_J (J : Jq nw sc L B) : ∀ n, n ≤ sc → Q_true L.1 L.2.1 L.2.2 nw n = Q_true B.1 B.2.1 B.2.2 nw n
  | 0, _ => rfl
  | n + 1, h => by rw [Q_true, Q_true, Q_true_J J n (by omega), J.tot (by omega)]
theorem P_rank_J (h : ∀ i, i < sc → s i 8 = s' i 8) {a : Nat} (ha : a < sc) : ∀ n, n ≤ sc → P_rank s a n = P_rank s' a n
  | 0, _ => rfl
  | n + 1, hn => by rw [P_rank, P_rank, P_rank_J h ha n (by omega), h n (by omega), h a ha]
/-- a stands before b -/
def Bf (s : Nat → Nat → Int32) (a b : Nat) : Prop := s b 8 < s a 8 ∨ (s a 8 = s b 8 ∧ a < b)
theorem Bf_tri {a b : Nat} (h : a ≠ b) : Bf s a b ∨ Bf s b a := by
  unfold Bf
  rcases Int32.lt_or_le (s b 8) (s a 8) with z | z
  · exact Or.inl (Or.inl z)
  · rcases Int32.lt_or_le (s a 8) (s b 8) with y | y
    · exact Or.inr (Or.inl y)
    · have e := Int32.le_antisymm z y
      rcases Nat.lt_or_gt_of_ne h with x | x
      · exact Or.inl (Or.inr ⟨e, x⟩)
      · exact Or.inr (Or.inr ⟨e.symm, x⟩)
theorem Bf_trans {a b d : Nat} (h : Bf s a b) (g : Bf s b d) : Bf s a d := by
  unfold Bf at *
  rcases h with h | ⟨h1, h2⟩
  · rcases g with g | ⟨g1, g2⟩
    · exact Or.inl (Int32.lt_trans g h)
    · exact Or.inl (by rw [← g1]; exact h)
  · rcases g with g | ⟨g1, g2⟩
    · exact Or.inl (by rw [h1]; exact g)
    · exact Or.inr ⟨h1.trans g1, by omega⟩
theorem Bf_irr {a : Nat} : ¬ Bf s a a := fun h => by
  rcases h with h | ⟨-, h⟩
  · exact Int32.lt_irrefl h
  · omega
theorem P_rank_mono {a b : Nat} (h : Bf s a b) : ∀ n, P_rank s a n ≤ P_rank s b n ∧ (a < n → P_rank s a n < P_rank s b n)
  | 0 => ⟨Nat.le_refl _, fun z => by omega⟩
  | n + 1 => by
    obtain ⟨h1, h2⟩ := P_rank_mono h n
    rw [P_rank, P_rank]
    by_cases ca : s a 8 < s n 8 ∨ (s n 8 = s a 8 ∧ n < a)
    · have cb : s b 8 < s n 8 ∨ (s n 8 = s b 8 ∧ n < b) := Bf_trans (show Bf s n a from ca) h
      rw [if_pos ca, if_pos cb]
      refine ⟨by omega, fun z => ?_⟩
      have : a ≠ n := fun e => by rw [e] at ca; exact Bf_irr (show Bf s n n from ca)
      have := h2 (by omega)
      omega
    · rw [if_neg ca]
      by_cases e : a = n
      · have cb : s b 8 < s n 8 ∨ (s n 8 = s b 8 ∧ n < b) := by rw [← e]; exact h
        rw [if_pos cb]
        exact ⟨by omega, fun _ => by omega⟩
      · refine ⟨by split <;> omega, fun z => ?_⟩
        have := h2 (by omega)
        split <;> omega
theorem P_rank_inj {a b n : Nat} (ha : a < n) (hb : b < n) (e : P_rank s a n = P_rank s b n) : a = b := by
  by_cases h : a = b
  · exact h
  · rcases Bf_tri (s := s) h with z | z
    · have := (P_rank_mono z n).2 ha; omega
    · have := (P_rank_mono z n).2 hb; omega
theorem P_rank_lt {a : Nat} : ∀ n, a < n → P_rank s a n < n
  | 0, h => by omega
  | n + 1, h => by
    rw [P_rank]
    by_cases e : a = n
    · rw [if_neg (fun z => by rw [e] at z; exact Bf_irr (show Bf s n n from z))]
      have := P_rank_le s a n
      omega
    · have := P_rank_lt (a := a) n (by omega)
      split <;> omega
theorem Q_rank_at {a : Nat} (s8 : sc ≤ 8) (ha : a < sc) : ∀ d, d ≤ sc → sc - d ≤ a → Q_rank s sc (nI (P_rank s a sc)) d = nI a
  | 0, _, h => by omega
  | d + 1, hd, h => by
    rw [Q_rank]
    have l1 := P_rank_le s (sc - (d + 1)) sc
    have l2 := P_rank_le s a sc
    by_cases e : nI (P_rank s (sc - (d + 1)) sc) = nI (P_rank s a sc)
    · rw [if_pos e, P_rank_inj (by omega) ha (nI_inj (by omega) (by omega) e)]
    · rw [if_neg e]
      refine Q_rank_at s8 ha d (by omega) ?_
      have : sc - (d + 1) ≠ a := fun z => e (by rw [z])
      omega
theorem Q_rank_no {r : Int32} (hr : ∀ a, a < sc → nI (P_rank s a sc) ≠ r) : ∀ d, d ≤ sc → Q_rank s sc r d = -1
  | 0, _ => rfl
  | d + 1, hd => by
    rw [Q_rank, if_neg (hr _ (by omega))]
    exact Q_rank_no hr d (by omega)
theorem Q_rank_J (s8 : sc ≤ 8) (h : ∀ i, i < sc → s i 8 = s' i 8) {r : Int32} : ∀ d, d ≤ sc → Q_rank s sc r d = Q_rank s' sc r d
  | 0, _ => rfl
  | d + 1, hd => by rw [Q_rank, Q_rank, P_rank_J h (by omega) sc (Nat.le_refl _), Q_rank_J s8 h d (by omega)]
end
