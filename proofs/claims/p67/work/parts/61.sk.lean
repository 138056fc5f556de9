theorem ns {h : Hp} {m a k kd N : Nat} (ha : hK h a = 0) (lm : hK h m ≠ 0) : a ≠ m ∧ Kp m h (sR (hNew h a kd N) m k (some a)) ∧ (∀ j, j ≠ k → hR (sR (hNew h a kd N) m k (some a)) m j = hR h m j) ∧ hR (sR (hNew h a kd N) m k (some a)) m k = some a ∧ hK (sR (hNew h a kd N) m k (some a)) a = kd ∧ hL (sR (hNew h a kd N) m k (some a)) a = N ∧ (hI (sR (hNew h a kd N) m k (some a)) a = Z_0) ∧ hK (hNew h a kd N) m = hK h m := by
  have n : a ≠ m := fun z => lm (z ▸ ha)
  obtain ⟨x1, x2, x3⟩ := xs (k := k) (a := some a) (Ext.r.new (k := kd) (n := N) ha) lm
  exact ⟨n, x1, x2, x3, by rw [hK_sR9, hK_new, if_pos rfl], by rw [hL_sR9, hL_new, if_pos rfl], by rw [hI_sR9, hI_new, if_pos rfl]; rfl, by rw [hK_new, if_neg (Ne.symm n)]⟩
